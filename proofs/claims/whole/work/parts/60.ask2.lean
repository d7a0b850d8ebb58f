theorem gm_V_s {k u : Nat} {U : Nat → pd_rr} (hV : gm_V k u U) : ∀ i, i < u → ∀ b, (U i).2.2.2 = some b → b < k := by
  intro i hi b hb
  by_cases h : (U i).1 = 7
  · obtain ⟨b2, h2, h3⟩ := (hV i hi).1 h
    rw [hb] at h2
    cases h2
    exact h3
  · rw [(hV i hi).2.1 h] at hb
    cases hb
abbrev y_Mod_ask4 : MethodName := ⟨"PolicyDeskModel", "ask", "(I)I"⟩
theorem ok_Mod_ask4 : pd_ok y_Mod_ask4 prog_15_method_38_code 4 (some .int) 1 := ⟨mT_1392, mT_21, by decide, by decide +kernel⟩
abbrev rm_Mod_ask4 : Room := { frames := 6, cells := 0, slots := 0, locals := 134 }
set_option maxHeartbeats 4000000 in
set_option maxRecDepth 100000 in
theorem c_Mod_ask4 (l : Launch) (G : pd_G) (h : pd_H) {y : Nat} {ad : Nat → Nat} {fv : Nat → Nat → Int32} {iv : Nat → Int32} {tl : Int64} {cs : List Nat} {n : Nat} {R : Nat → pd_cr} {k : Nat} {M : Nat → pd_mr} {u : Nat} {U : Nat → pd_rr} {nw dn : Nat} {sA eA : Nat → Nat} {T : Nat → List Nat} {an gn : Nat} (hMO : pd_MO G h y ad fv iv tl) (hL : gm_L fv iv cs) (hC : gm_C fv iv n R) (hM : gm_M fv iv n k M) (hU : gm_U fv iv u U) (hK : gm_K n R) (hB : gm_B n R) (hV : gm_V k u U) (hW : gm_W fv cs nw sA eA) (hiv34 : iv 34 = nI dn) (hA : gm_A fv T) (hiv32 : iv 32 = nI an) (hiv33 : iv 33 = nI gn) (han : an < 1000) (hnw : 3 ≤ nw) (hw2 : tx_sub cs (sA 2) (eA 2) = gr_w cs 2) (hbda : gm_mem cs (sA 1) (eA 1) = true → tx_sub cs (sA 1) (gm_name cs (sA 1) (eA 1)) = gr_bd (gr_w cs 1) ∧ tx_sub cs (gm_name cs (sA 1) (eA 1) + 1) (eA 1) = gr_ad (gr_w cs 1)) (hism : gm_type cs (sA 2) (eA 2) = some (eA 2) → gr_ism (gr_w cs 2) = false) : pd_M l y_Mod_ask4 prog_15_method_38_code 4 (some .int) rm_Mod_ask4 G h [.ref y, .int (nI 4)] Value.int (fun r h1 => (¬ (gm_mem cs (sA 1) (eA 1) = true ∧ gm_type cs (sA 2) (eA 2) = some (eA 2)) ∧ r = -1 ∧ pd_kx [20, 60, 61, 71, 72] h h1 ∧ pd_MO G h1 y ad fv (pd_fu (pd_fu iv 38 (nI (gm_name cs (sA 1) (eA 1)))) 40 (nI (gm_name cs (sA 1) (eA 1) + 1))) tl) ∨ ((gm_mem cs (sA 1) (eA 1) = true ∧ gm_type cs (sA 2) (eA 2) = some (eA 2)) ∧ r = (gr_jm n R k M u U cs 11).1 ∧ pd_kx [20, 60, 61, 71, 72] h h1 ∧ ∃ a1 a2 fo1 fo2 v35 v43, pd_MO G h1 y ad (pd_fu (pd_fu (pd_fu (pd_fu fv 30 a1) 31 a2) 41 fo1) 42 fo2) (pd_fu (pd_fu (pd_fu (pd_fu (pd_fu (pd_fu (pd_fu iv 38 (nI (gm_name cs (sA 1) (eA 1)))) 40 (nI (gm_name cs (sA 1) (eA 1) + 1))) 32 (nI (an + 1))) 33 (nI (gr_gn gn (gr_jm n R k M u U cs 11).1))) 34 (nI (dn + (gr_jm n R k M u U cs 11).2))) 35 v35) 43 v43) (gr_pay tl (gr_jm n R k M u U cs 11).1) ∧ gm_A (pd_fu (pd_fu (pd_fu (pd_fu fv 30 a1) 31 a2) 41 fo1) 42 fo2) (pd_fu T (an % 12) (gr_atx an cs (gr_jm n R k M u U cs 11).1)))) := by
  refine pd_M.of (by decide) (Nat.le_of_ble_eq_true rfl) ?_
  intro p e s m below meth c X hmn w ls hl
  have hx := X.1
  have hb := X.2.1
  have hl : lv_has ls 4 [(0, .ref y), (1, .int (nI 4))] := hl
  have hz_y := hMO.2.1
  have hy0 : h y = some (20, .inr (10, [.ref (ad 0), .ref (ad 1), .ref (ad 2), .int (iv 3), .int (iv 4), .int (iv 5), .ref (ad 6), .ref (ad 7), .ref (ad 8), .ref (ad 9), .ref (ad 10), .ref (ad 11), .int (iv 12), .ref (ad 13), .ref (ad 14), .ref (ad 15), .ref (ad 16), .ref (ad 17), .ref (ad 18), .ref (ad 19), .int (iv 20), .ref (ad 21), .ref (ad 22), .ref (ad 23), .ref (ad 24), .ref (ad 25), .ref (ad 26), .ref (ad 27), .ref (ad 28), .int (iv 29), .ref (ad 30), .ref (ad 31), .int (iv 32), .int (iv 33), .int (iv 34), .int (iv 35), .long tl, .int (iv 37), .int (iv 38), .int (iv 39), .int (iv 40), .ref (ad 41), .ref (ad 42), .int (iv 43)])) := hMO.1
  have ha30 : h (ad 30) = some (60, .inl (.int, 1152, .inl (fv 30))) := (hMO.2.2 30 (by decide)).1
  have ha31 : h (ad 31) = some (61, .inl (.int, 12, .inl (fv 31))) := (hMO.2.2 31 (by decide)).1
  have ha41 : h (ad 41) = some (71, .inl (.int, 16, .inl (fv 41))) := (hMO.2.2 41 (by decide)).1
  have ha42 : h (ad 42) = some (72, .inl (.int, 32, .inl (fv 42))) := (hMO.2.2 42 (by decide)).1
  have hw31 := hW.1
  have hwl1 := (hW.2 1 (by omega)).2.2
  refine lv_iload_n hx hb d_p15m38_0 rfl (lv_at hl 1 rfl) ?_
  refine lv_iconst (v := nI 3) hx hb d_p15m38_1 (by decide) ?_
  refine pd_jle (tgt := 9) hx hb d_p15m38_2 (by decide) (by decide) (by decide) (fun q => absurd q (by decide)) (fun _ => ?_)
  refine lv_iconst (v := nI 1) hx hb d_p15m38_5 (by decide) ?_
  refine lv_goto (tgt := 10) hx hb d_p15m38_6 (by decide) ?_
  refine lv_istore_n (lv' := [(2, .int (nI 1)), (0, .ref y), (1, .int (nI 4))]) hx hb d_p15m38_10 rfl hl (by decide) rfl (fun ls hl => ?_)
  refine lv_iload_n hx hb d_p15m38_11 rfl (lv_at hl 0 rfl) ?_
  refine pd_zeq (tgt := 50) hx hb d_p15m38_12 (by decide) (by decide) (fun q => absurd q (by decide)) (fun _ => ?_)
  refine lv_aload_n hx hb d_p15m38_15 rfl (lv_at hl 1 rfl) ?_
  refine lv_iconst (v := nI 1) hx hb d_p15m38_16 (by decide) ?_
  refine pd_cV (a := y) (As := [.int (nI 1)]) (rest := []) X w hy0 rfl (c_Mod_isMember l G h (cs := cs) (nw := nw) (sA := sA) (eA := eA) (ad := ad) (fv := fv) (iv := iv) (tl := tl) hMO hL hW (by omega)) ok_Mod_isMember ⟨mT_1340, sT_24⟩ mT_1338 ⟨by decide, by decide⟩ rfl hl.1 rfl (Nat.le_of_ble_eq_true rfl) d_p15m38_17 ⟨by decide, by decide⟩ (fun r3 h4 H locs hp5 w => ?_)
  refine W.widen (k := 0) (n := 0) (by decide) (by decide) ?_
  obtain ⟨e6, k7, f8⟩ := hp5
  have f9 := k7 _ _ ha30 (show (60 : Nat) ∉ [20] by decide)
  have f10 := k7 _ _ ha31 (show (61 : Nat) ∉ [20] by decide)
  have f11 := k7 _ _ ha41 (show (71 : Nat) ∉ [20] by decide)
  have f12 := k7 _ _ ha42 (show (72 : Nat) ∉ [20] by decide)
  have hy13 : h4 y = some (20, .inr (10, [.ref (ad 0), .ref (ad 1), .ref (ad 2), .int (iv 3), .int (iv 4), .int (iv 5), .ref (ad 6), .ref (ad 7), .ref (ad 8), .ref (ad 9), .ref (ad 10), .ref (ad 11), .int (iv 12), .ref (ad 13), .ref (ad 14), .ref (ad 15), .ref (ad 16), .ref (ad 17), .ref (ad 18), .ref (ad 19), .int (iv 20), .ref (ad 21), .ref (ad 22), .ref (ad 23), .ref (ad 24), .ref (ad 25), .ref (ad 26), .ref (ad 27), .ref (ad 28), .int (iv 29), .ref (ad 30), .ref (ad 31), .int (iv 32), .int (iv 33), .int (iv 34), .int (iv 35), .long tl, .int (iv 37), .int (nI (gm_name cs (sA 1) (eA 1))), .int (iv 39), .int (nI (gm_name cs (sA 1) (eA 1) + 1)), .ref (ad 41), .ref (ad 42), .int (iv 43)])) := f8.1
  have ha14 : h4 (ad 30) = some (60, .inl (.int, 1152, .inl (fv 30))) := (f8.2.2 30 (by decide)).1
  have ha15 : h4 (ad 31) = some (61, .inl (.int, 12, .inl (fv 31))) := (f8.2.2 31 (by decide)).1
  have ha16 : h4 (ad 41) = some (71, .inl (.int, 16, .inl (fv 41))) := (f8.2.2 41 (by decide)).1
  have ha17 : h4 (ad 42) = some (72, .inl (.int, 32, .inl (fv 42))) := (f8.2.2 42 (by decide)).1
  refine pd_beq (tgt := 58) hx hb d_p15m38_20 (by decide) (fun q18 => ?_) (fun q18 => ?_)
  · -- taken: 58
    refine lv_iconst (v := -1) hx hb d_p15m38_58 (by decide) ?_
    exact pd_iret (v := (-1)) X w (Or.inl ⟨(fun z => by have z1 := z.1; rw [← e6, q18] at z1; cases z1), rfl, pd_kx.mono (us := [20, 60, 61, 71, 72]) (k7) (by simp), f8⟩) (by decide) (by decide) d_p15m38_59
  · -- not taken: 23
    have hmem := e6.symm.trans q18
    have hmb := of_decide_eq_true hmem
    refine lv_iload_n hx hb d_p15m38_23 rfl (lv_at hl 2 rfl) ?_
    refine lv_iconst (v := nI 4) hx hb d_p15m38_24 (by decide) ?_
    refine pd_jne (tgt := 39) hx hb d_p15m38_25 (by decide) (by decide) (by decide) (fun q => absurd q (by decide)) (fun _ => ?_)
    refine lv_aload_n hx hb d_p15m38_28 rfl (lv_at hl 1 rfl) ?_
    refine lv_iconst (v := nI 2) hx hb d_p15m38_29 (by decide) ?_
    refine pd_cV (a := y) (As := [.int (nI 2)]) (rest := []) X w hy13 rfl (c_Mod_isType l G h4 (cs := cs) (nw := nw) (sA := sA) (eA := eA) (ad := ad) (fv := fv) (iv := pd_fu (pd_fu iv 38 (nI (gm_name cs (sA 1) (eA 1)))) 40 (nI (gm_name cs (sA 1) (eA 1) + 1))) (tl := tl) f8 hL hW (by omega)) ok_Mod_isType ⟨mT_1352, sT_27⟩ mT_1350 ⟨by decide, by decide⟩ rfl hl.1 rfl (Nat.le_of_ble_eq_true rfl) d_p15m38_30 ⟨by decide, by decide⟩ (fun r20 h21 H locs hp22 w => ?_)
    refine W.widen (k := 0) (n := 0) (by decide) (by decide) ?_
    obtain ⟨e23, rfl⟩ := hp22
    refine pd_bne (tgt := 60) hx hb d_p15m38_33 (by decide) (fun q24 => ?_) (fun q24 => ?_)
    · -- taken: 60
      have hc2 : gm_type cs (sA 2) (eA 2) = some (eA 2) := of_decide_eq_true (e23.symm.trans q24)
      refine lv_aload_n hx hb d_p15m38_60 rfl (lv_at hl 1 rfl) ?_
      refine lv_iload_n hx hb d_p15m38_61 rfl (lv_at hl 2 rfl) ?_
      refine lv_iload_n hx hb d_p15m38_62 rfl (lv_at hl 0 rfl) ?_
      refine pd_cV (a := y) (As := [.int (nI 4), .int (nI 1)]) (rest := []) X w hy13 rfl (c_Mod_answerM4 l G h4 (cs := cs) (n := n) (R := R) (k := k) (M := M) (u := u) (U := U) (nw := nw) (dn := dn) (sA := sA) (eA := eA) (ne := gm_name cs (sA 1) (eA 1)) (tf := gm_name cs (sA 1) (eA 1) + 1) (ad := ad) (fv := fv) (iv := pd_fu (pd_fu iv 38 (nI (gm_name cs (sA 1) (eA 1)))) 40 (nI (gm_name cs (sA 1) (eA 1) + 1))) (tl := tl) f8 hL hC hM hU hK hB hV hW hiv34 (by omega) rfl rfl (hbda hmem).1 (hbda hmem).2 hw2 (hism hc2) (by omega) (by omega)) ok_Mod_answerM4 ⟨mT_1395, sT_36⟩ mT_1393 ⟨by decide, by decide⟩ rfl hl.1 rfl (Nat.le_of_ble_eq_true rfl) d_p15m38_63 ⟨by decide, by decide⟩ (fun r25 h26 H locs hp27 w => ?_)
      refine W.widen (k := 0) (n := 0) (by decide) (by decide) ?_
      obtain ⟨e28, k29, f30, f31, v32, f33⟩ := hp27
      have f34 := k29 _ _ ha14 (show (60 : Nat) ∉ [20, 71, 72] by decide)
      have f35 := k29 _ _ ha15 (show (61 : Nat) ∉ [20, 71, 72] by decide)
      subst e28
      have mo36 : pd_MO G h26 y ad (pd_fu (pd_fu fv 41 f30) 42 f31) (pd_fu (pd_fu (pd_fu (pd_fu iv 34 (nI (dn + (gr_jm n R k M u U cs 11).2))) 38 (nI (gm_name cs (sA 1) (eA 1)))) 40 (nI (gm_name cs (sA 1) (eA 1) + 1))) 43 v32) tl := pd_MO.ext f33 (fun j9 hj9 => by by_cases e941 : j9 = 41; subst e941; rfl; by_cases e942 : j9 = 42; subst e942; rfl; simp only [pd_fu, if_neg e941, if_neg e942]) rfl
      have hy37 : h26 y = some (20, .inr (10, [.ref (ad 0), .ref (ad 1), .ref (ad 2), .int (iv 3), .int (iv 4), .int (iv 5), .ref (ad 6), .ref (ad 7), .ref (ad 8), .ref (ad 9), .ref (ad 10), .ref (ad 11), .int (iv 12), .ref (ad 13), .ref (ad 14), .ref (ad 15), .ref (ad 16), .ref (ad 17), .ref (ad 18), .ref (ad 19), .int (iv 20), .ref (ad 21), .ref (ad 22), .ref (ad 23), .ref (ad 24), .ref (ad 25), .ref (ad 26), .ref (ad 27), .ref (ad 28), .int (iv 29), .ref (ad 30), .ref (ad 31), .int (iv 32), .int (iv 33), .int (nI (dn + (gr_jm n R k M u U cs 11).2)), .int (iv 35), .long tl, .int (iv 37), .int (nI (gm_name cs (sA 1) (eA 1))), .int (iv 39), .int (nI (gm_name cs (sA 1) (eA 1) + 1)), .ref (ad 41), .ref (ad 42), .int v32])) := mo36.1
      have ha38 : h26 (ad 30) = some (60, .inl (.int, 1152, .inl (fv 30))) := (mo36.2.2 30 (by decide)).1
      have ha39 : h26 (ad 31) = some (61, .inl (.int, 12, .inl (fv 31))) := (mo36.2.2 31 (by decide)).1
      have ha40 : h26 (ad 41) = some (71, .inl (.int, 16, .inl (f30))) := (mo36.2.2 41 (by decide)).1
      have ha41 : h26 (ad 42) = some (72, .inl (.int, 32, .inl (f31))) := (mo36.2.2 42 (by decide)).1
      refine lv_istore_n (lv' := [(3, .int ((gr_jm n R k M u U cs 11).1)), (2, .int (nI 1)), (0, .ref y), (1, .int (nI 4))]) hx hb d_p15m38_66 rfl hl (by decide) rfl (fun ls hl => ?_)
      have haok : gr_aok (gr_jm n R k M u U cs 11).1 := gr_jm_ok (fun i9 hi9 => (hV i9 hi9).2.2) (gm_V_s hV) hM.2.1
      refine lv_aload_n hx hb d_p15m38_67 rfl (lv_at hl 2 rfl) ?_
      refine lv_iload_n hx hb d_p15m38_68 rfl (lv_at hl 0 rfl) ?_
      refine pd_cVv (a := y) (As := [.int ((gr_jm n R k M u U cs 11).1)]) (rest := []) X w hy37 rfl (c_Mod_write l G h26 (cs := cs) (an := an) (T := T) (ans := (gr_jm n R k M u U cs 11).1) (ad := ad) (fv := pd_fu (pd_fu fv 41 f30) 42 f31) (iv := pd_fu (pd_fu (pd_fu (pd_fu iv 34 (nI (dn + (gr_jm n R k M u U cs 11).2))) 38 (nI (gm_name cs (sA 1) (eA 1)))) 40 (nI (gm_name cs (sA 1) (eA 1) + 1))) 43 v32) (tl := tl) mo36 hL hA hiv32 (by omega) haok) ok_Mod_write ⟨mT_1431, sT_45⟩ mT_1429 ⟨by decide, by decide⟩ rfl hl.1 rfl (Nat.le_of_ble_eq_true rfl) d_p15m38_69 ⟨by decide, by decide⟩ (fun h43 H locs hp44 w => ?_)
      refine W.widen (k := 0) (n := 0) (by decide) (by decide) ?_
      obtain ⟨k45, f46, f47, v48, f49, f50⟩ := hp44
      have f51 := k45 _ _ ha40 (show (71 : Nat) ∉ [20, 60, 61] by decide)
      have f52 := k45 _ _ ha41 (show (72 : Nat) ∉ [20, 60, 61] by decide)
      have mo53 : pd_MO G h43 y ad (pd_fu (pd_fu (pd_fu (pd_fu fv 30 f46) 31 f47) 41 f30) 42 f31) (pd_fu (pd_fu (pd_fu (pd_fu (pd_fu iv 34 (nI (dn + (gr_jm n R k M u U cs 11).2))) 35 v48) 38 (nI (gm_name cs (sA 1) (eA 1)))) 40 (nI (gm_name cs (sA 1) (eA 1) + 1))) 43 v32) tl := pd_MO.ext f49 (fun j9 hj9 => by by_cases e930 : j9 = 30; subst e930; rfl; by_cases e931 : j9 = 31; subst e931; rfl; by_cases e941 : j9 = 41; subst e941; rfl; by_cases e942 : j9 = 42; subst e942; rfl; simp only [pd_fu, if_neg e930, if_neg e931, if_neg e941, if_neg e942]) rfl
      have hy54 : h43 y = some (20, .inr (10, [.ref (ad 0), .ref (ad 1), .ref (ad 2), .int (iv 3), .int (iv 4), .int (iv 5), .ref (ad 6), .ref (ad 7), .ref (ad 8), .ref (ad 9), .ref (ad 10), .ref (ad 11), .int (iv 12), .ref (ad 13), .ref (ad 14), .ref (ad 15), .ref (ad 16), .ref (ad 17), .ref (ad 18), .ref (ad 19), .int (iv 20), .ref (ad 21), .ref (ad 22), .ref (ad 23), .ref (ad 24), .ref (ad 25), .ref (ad 26), .ref (ad 27), .ref (ad 28), .int (iv 29), .ref (ad 30), .ref (ad 31), .int (iv 32), .int (iv 33), .int (nI (dn + (gr_jm n R k M u U cs 11).2)), .int v48, .long tl, .int (iv 37), .int (nI (gm_name cs (sA 1) (eA 1))), .int (iv 39), .int (nI (gm_name cs (sA 1) (eA 1) + 1)), .ref (ad 41), .ref (ad 42), .int v32])) := mo53.1
      have ha55 : h43 (ad 30) = some (60, .inl (.int, 1152, .inl (f46))) := (mo53.2.2 30 (by decide)).1
      have ha56 : h43 (ad 31) = some (61, .inl (.int, 12, .inl (f47))) := (mo53.2.2 31 (by decide)).1
      have ha57 : h43 (ad 41) = some (71, .inl (.int, 16, .inl (f30))) := (mo53.2.2 41 (by decide)).1
      have ha58 : h43 (ad 42) = some (72, .inl (.int, 32, .inl (f31))) := (mo53.2.2 42 (by decide)).1
      refine lv_aload_n hx hb d_p15m38_72 rfl (lv_at hl 2 rfl) ?_
      refine lv_dup hx hb d_p15m38_73 rfl ?_
      refine pd_get X w hy54 rfl 32 (by decide) mT_1171 rfl rfl d_p15m38_74 ?_
      refine pd_top (v' := .int (nI an)) (congrArg Value.int hiv32) ?_
      refine lv_iconst (v := nI 1) hx hb d_p15m38_77 (by decide) ?_
      refine pd_iadd hx hb d_p15m38_78 ?_
      refine pd_put (ty := .int) X w hy54 hz_y rfl 32 (by decide) mT_1171 rfl rfl (by decide +kernel) rfl rfl (Nat.le_of_ble_eq_true rfl) d_p15m38_79 (fun H locs w => ?_)
      have w : pd_w G s H locs (pd_up h43 y (20, .inr (10, [.ref (ad 0), .ref (ad 1), .ref (ad 2), .int (iv 3), .int (iv 4), .int (iv 5), .ref (ad 6), .ref (ad 7), .ref (ad 8), .ref (ad 9), .ref (ad 10), .ref (ad 11), .int (iv 12), .ref (ad 13), .ref (ad 14), .ref (ad 15), .ref (ad 16), .ref (ad 17), .ref (ad 18), .ref (ad 19), .int (iv 20), .ref (ad 21), .ref (ad 22), .ref (ad 23), .ref (ad 24), .ref (ad 25), .ref (ad 26), .ref (ad 27), .ref (ad 28), .int (iv 29), .ref (ad 30), .ref (ad 31), .int (nI (an + 1)), .int (iv 33), .int (nI (dn + (gr_jm n R k M u U cs 11).2)), .int v48, .long tl, .int (iv 37), .int (nI (gm_name cs (sA 1) (eA 1))), .int (iv 39), .int (nI (gm_name cs (sA 1) (eA 1) + 1)), .ref (ad 41), .ref (ad 42), .int v32]))) := w
      obtain ⟨h59, u62⟩ : ∃ z, z = pd_up h43 y (20, .inr (10, [.ref (ad 0), .ref (ad 1), .ref (ad 2), .int (iv 3), .int (iv 4), .int (iv 5), .ref (ad 6), .ref (ad 7), .ref (ad 8), .ref (ad 9), .ref (ad 10), .ref (ad 11), .int (iv 12), .ref (ad 13), .ref (ad 14), .ref (ad 15), .ref (ad 16), .ref (ad 17), .ref (ad 18), .ref (ad 19), .int (iv 20), .ref (ad 21), .ref (ad 22), .ref (ad 23), .ref (ad 24), .ref (ad 25), .ref (ad 26), .ref (ad 27), .ref (ad 28), .int (iv 29), .ref (ad 30), .ref (ad 31), .int (nI (an + 1)), .int (iv 33), .int (nI (dn + (gr_jm n R k M u U cs 11).2)), .int v48, .long tl, .int (iv 37), .int (nI (gm_name cs (sA 1) (eA 1))), .int (iv 39), .int (nI (gm_name cs (sA 1) (eA 1) + 1)), .ref (ad 41), .ref (ad 42), .int v32])) := ⟨_, rfl⟩
      rw [← u62] at w
      have k60 : pd_kq y h43 h59 := by rw [u62]; exact pd_up_kq
      have f61 : h59 y = some (20, .inr (10, [.ref (ad 0), .ref (ad 1), .ref (ad 2), .int (iv 3), .int (iv 4), .int (iv 5), .ref (ad 6), .ref (ad 7), .ref (ad 8), .ref (ad 9), .ref (ad 10), .ref (ad 11), .int (iv 12), .ref (ad 13), .ref (ad 14), .ref (ad 15), .ref (ad 16), .ref (ad 17), .ref (ad 18), .ref (ad 19), .int (iv 20), .ref (ad 21), .ref (ad 22), .ref (ad 23), .ref (ad 24), .ref (ad 25), .ref (ad 26), .ref (ad 27), .ref (ad 28), .int (iv 29), .ref (ad 30), .ref (ad 31), .int (nI (an + 1)), .int (iv 33), .int (nI (dn + (gr_jm n R k M u U cs 11).2)), .int v48, .long tl, .int (iv 37), .int (nI (gm_name cs (sA 1) (eA 1))), .int (iv 39), .int (nI (gm_name cs (sA 1) (eA 1) + 1)), .ref (ad 41), .ref (ad 42), .int v32])) := by rw [u62]; exact pd_up_s _ _ _
      have f63 := k60 _ _ (pd_ne ha57 hy54 (by simp)) ha57
      have f64 := k60 _ _ (pd_ne ha58 hy54 (by simp)) ha58
      have f65 := k60 _ _ (pd_ne ha55 hy54 (by simp)) ha55
      have f66 := k60 _ _ (pd_ne ha56 hy54 (by simp)) ha56
      refine lv_iload_n hx hb d_p15m38_82 rfl (lv_at hl 0 rfl) ?_
      refine lv_if_lt (tgt := 118) hx hb d_p15m38_83 (by decide) (fun q67 => ?_) (fun q67 => ?_)
      · -- taken: 118
        refine lv_iload_n hx hb d_p15m38_118 rfl (lv_at hl 0 rfl) ?_
        have mo68 : pd_MO G h59 y ad (pd_fu (pd_fu (pd_fu (pd_fu fv 30 f46) 31 f47) 41 f30) 42 f31) (pd_fu (pd_fu (pd_fu (pd_fu (pd_fu (pd_fu iv 34 (nI (dn + (gr_jm n R k M u U cs 11).2))) 35 v48) 38 (nI (gm_name cs (sA 1) (eA 1)))) 40 (nI (gm_name cs (sA 1) (eA 1) + 1))) 43 v32) 32 (nI (an + 1))) tl := pd_MO.of (ts := [20]) mo53 (pd_kq.kx (k60) hy54) f61 (fun j hj => Or.inr ⟨fun z => by first | (simp at z; done) | (simp at z; omega), rfl⟩)
        have hgn : gr_gn gn (gr_jm n R k M u U cs 11).1 = gn := by unfold gr_gn; rw [if_pos q67]
        have hpy : gr_pay tl (gr_jm n R k M u U cs 11).1 = tl := by unfold gr_pay; rw [if_pos q67]
        exact pd_iret (v := ((gr_jm n R k M u U cs 11).1)) X w (Or.inr ⟨⟨hmem, hc2⟩, rfl, pd_kx.mono (us := [20, 60, 61, 71, 72]) (pd_kx.tr (pd_kx.tr (pd_kx.mono (us := [20, 71, 72, 60, 61]) (pd_kx.tr (pd_kx.mono (us := [20, 71, 72]) (k7) (by simp)) (k29)) (by simp)) (pd_kx.mono (us := [20, 71, 72, 60, 61]) (k45) (by simp))) (pd_kx.mono (us := [20, 71, 72, 60, 61]) (pd_kq.kx (k60) hy54) (by simp))) (by simp), f46, f47, f30, f31, v48, v32, (by rw [hgn, hpy]; exact pd_MO.ext mo68 (fun j9 hj9 => by by_cases e30 : j9 = 30; subst e30; rfl; by_cases e31 : j9 = 31; subst e31; rfl; by_cases e41 : j9 = 41; subst e41; rfl; by_cases e42 : j9 = 42; subst e42; rfl; simp only [pd_fu, if_neg e30, if_neg e31, if_neg e41, if_neg e42]) (by show pd_mv ad (pd_fu (pd_fu (pd_fu (pd_fu (pd_fu (pd_fu (pd_fu iv 38 (nI (gm_name cs (sA 1) (eA 1)))) 40 (nI (gm_name cs (sA 1) (eA 1) + 1))) 32 _) 33 (nI gn)) 34 _) 35 _) 43 _) _ = _; exact congrArg (fun z => pd_mv ad (pd_fu (pd_fu (pd_fu (pd_fu (pd_fu (pd_fu (pd_fu iv 38 (nI (gm_name cs (sA 1) (eA 1)))) 40 (nI (gm_name cs (sA 1) (eA 1) + 1))) 32 _) 33 z) 34 _) 35 _) 43 _) _) hiv33.symm)), f50⟩) (by decide) (by decide) d_p15m38_119
      · -- not taken: 86
        refine lv_aload_n hx hb d_p15m38_86 rfl (lv_at hl 2 rfl) ?_
        refine lv_dup hx hb d_p15m38_87 rfl ?_
        refine pd_get X w f61 rfl 33 (by decide) mT_1172 rfl rfl d_p15m38_88 ?_
        refine pd_top (v' := .int (nI gn)) (congrArg Value.int hiv33) ?_
        refine lv_iconst (v := nI 1) hx hb d_p15m38_91 (by decide) ?_
        refine pd_iadd hx hb d_p15m38_92 ?_
        refine pd_put (ty := .int) X w f61 hz_y rfl 33 (by decide) mT_1172 rfl rfl (by decide +kernel) rfl rfl (Nat.le_of_ble_eq_true rfl) d_p15m38_93 (fun H locs w => ?_)
        have w : pd_w G s H locs (pd_up h59 y (20, .inr (10, [.ref (ad 0), .ref (ad 1), .ref (ad 2), .int (iv 3), .int (iv 4), .int (iv 5), .ref (ad 6), .ref (ad 7), .ref (ad 8), .ref (ad 9), .ref (ad 10), .ref (ad 11), .int (iv 12), .ref (ad 13), .ref (ad 14), .ref (ad 15), .ref (ad 16), .ref (ad 17), .ref (ad 18), .ref (ad 19), .int (iv 20), .ref (ad 21), .ref (ad 22), .ref (ad 23), .ref (ad 24), .ref (ad 25), .ref (ad 26), .ref (ad 27), .ref (ad 28), .int (iv 29), .ref (ad 30), .ref (ad 31), .int (nI (an + 1)), .int (nI (gn + 1)), .int (nI (dn + (gr_jm n R k M u U cs 11).2)), .int v48, .long tl, .int (iv 37), .int (nI (gm_name cs (sA 1) (eA 1))), .int (iv 39), .int (nI (gm_name cs (sA 1) (eA 1) + 1)), .ref (ad 41), .ref (ad 42), .int v32]))) := w
        obtain ⟨h69, u72⟩ : ∃ z, z = pd_up h59 y (20, .inr (10, [.ref (ad 0), .ref (ad 1), .ref (ad 2), .int (iv 3), .int (iv 4), .int (iv 5), .ref (ad 6), .ref (ad 7), .ref (ad 8), .ref (ad 9), .ref (ad 10), .ref (ad 11), .int (iv 12), .ref (ad 13), .ref (ad 14), .ref (ad 15), .ref (ad 16), .ref (ad 17), .ref (ad 18), .ref (ad 19), .int (iv 20), .ref (ad 21), .ref (ad 22), .ref (ad 23), .ref (ad 24), .ref (ad 25), .ref (ad 26), .ref (ad 27), .ref (ad 28), .int (iv 29), .ref (ad 30), .ref (ad 31), .int (nI (an + 1)), .int (nI (gn + 1)), .int (nI (dn + (gr_jm n R k M u U cs 11).2)), .int v48, .long tl, .int (iv 37), .int (nI (gm_name cs (sA 1) (eA 1))), .int (iv 39), .int (nI (gm_name cs (sA 1) (eA 1) + 1)), .ref (ad 41), .ref (ad 42), .int v32])) := ⟨_, rfl⟩
        rw [← u72] at w
        have k70 : pd_kq y h59 h69 := by rw [u72]; exact pd_up_kq
        have f71 : h69 y = some (20, .inr (10, [.ref (ad 0), .ref (ad 1), .ref (ad 2), .int (iv 3), .int (iv 4), .int (iv 5), .ref (ad 6), .ref (ad 7), .ref (ad 8), .ref (ad 9), .ref (ad 10), .ref (ad 11), .int (iv 12), .ref (ad 13), .ref (ad 14), .ref (ad 15), .ref (ad 16), .ref (ad 17), .ref (ad 18), .ref (ad 19), .int (iv 20), .ref (ad 21), .ref (ad 22), .ref (ad 23), .ref (ad 24), .ref (ad 25), .ref (ad 26), .ref (ad 27), .ref (ad 28), .int (iv 29), .ref (ad 30), .ref (ad 31), .int (nI (an + 1)), .int (nI (gn + 1)), .int (nI (dn + (gr_jm n R k M u U cs 11).2)), .int v48, .long tl, .int (iv 37), .int (nI (gm_name cs (sA 1) (eA 1))), .int (iv 39), .int (nI (gm_name cs (sA 1) (eA 1) + 1)), .ref (ad 41), .ref (ad 42), .int v32])) := by rw [u72]; exact pd_up_s _ _ _
        have f73 := k70 _ _ (pd_ne f63 f61 (by simp)) f63
        have f74 := k70 _ _ (pd_ne f64 f61 (by simp)) f64
        have f75 := k70 _ _ (pd_ne f65 f61 (by simp)) f65
        have f76 := k70 _ _ (pd_ne f66 f61 (by simp)) f66
        refine lv_aload_n hx hb d_p15m38_96 rfl (lv_at hl 2 rfl) ?_
        refine lv_dup hx hb d_p15m38_97 rfl ?_
        refine pd_get X w f71 rfl 36 (by decide) mT_1175 rfl rfl d_p15m38_98 ?_
        refine lv_iload_n hx hb d_p15m38_101 rfl (lv_at hl 0 rfl) ?_
        refine lv_sipush (v := nI 10000) hx hb d_p15m38_102 (by decide) ?_
        refine lv_icmp_lt (tgt := 112) hx hb d_p15m38_105 (by decide) (fun q77 => ?_) (fun q77 => ?_)
        · -- taken: 112
          refine lv_iload_n hx hb d_p15m38_112 rfl (lv_at hl 0 rfl) ?_
          refine lv_i2l hx hb d_p15m38_113 rfl ?_
          refine lv_ladd hx hb d_p15m38_114 ?_
          refine pd_put (ty := .long) X w f71 hz_y rfl 36 (by decide) mT_1175 rfl rfl (by decide +kernel) rfl rfl (Nat.le_of_ble_eq_true rfl) d_p15m38_115 (fun H locs w => ?_)
          have w : pd_w G s H locs (pd_up h69 y (20, .inr (10, [.ref (ad 0), .ref (ad 1), .ref (ad 2), .int (iv 3), .int (iv 4), .int (iv 5), .ref (ad 6), .ref (ad 7), .ref (ad 8), .ref (ad 9), .ref (ad 10), .ref (ad 11), .int (iv 12), .ref (ad 13), .ref (ad 14), .ref (ad 15), .ref (ad 16), .ref (ad 17), .ref (ad 18), .ref (ad 19), .int (iv 20), .ref (ad 21), .ref (ad 22), .ref (ad 23), .ref (ad 24), .ref (ad 25), .ref (ad 26), .ref (ad 27), .ref (ad 28), .int (iv 29), .ref (ad 30), .ref (ad 31), .int (nI (an + 1)), .int (nI (gn + 1)), .int (nI (dn + (gr_jm n R k M u U cs 11).2)), .int v48, .long (tl + (((gr_jm n R k M u U cs 11).1).toInt64)), .int (iv 37), .int (nI (gm_name cs (sA 1) (eA 1))), .int (iv 39), .int (nI (gm_name cs (sA 1) (eA 1) + 1)), .ref (ad 41), .ref (ad 42), .int v32]))) := w
          obtain ⟨h78, u81⟩ : ∃ z, z = pd_up h69 y (20, .inr (10, [.ref (ad 0), .ref (ad 1), .ref (ad 2), .int (iv 3), .int (iv 4), .int (iv 5), .ref (ad 6), .ref (ad 7), .ref (ad 8), .ref (ad 9), .ref (ad 10), .ref (ad 11), .int (iv 12), .ref (ad 13), .ref (ad 14), .ref (ad 15), .ref (ad 16), .ref (ad 17), .ref (ad 18), .ref (ad 19), .int (iv 20), .ref (ad 21), .ref (ad 22), .ref (ad 23), .ref (ad 24), .ref (ad 25), .ref (ad 26), .ref (ad 27), .ref (ad 28), .int (iv 29), .ref (ad 30), .ref (ad 31), .int (nI (an + 1)), .int (nI (gn + 1)), .int (nI (dn + (gr_jm n R k M u U cs 11).2)), .int v48, .long (tl + (((gr_jm n R k M u U cs 11).1).toInt64)), .int (iv 37), .int (nI (gm_name cs (sA 1) (eA 1))), .int (iv 39), .int (nI (gm_name cs (sA 1) (eA 1) + 1)), .ref (ad 41), .ref (ad 42), .int v32])) := ⟨_, rfl⟩
          rw [← u81] at w
          have k79 : pd_kq y h69 h78 := by rw [u81]; exact pd_up_kq
          have f80 : h78 y = some (20, .inr (10, [.ref (ad 0), .ref (ad 1), .ref (ad 2), .int (iv 3), .int (iv 4), .int (iv 5), .ref (ad 6), .ref (ad 7), .ref (ad 8), .ref (ad 9), .ref (ad 10), .ref (ad 11), .int (iv 12), .ref (ad 13), .ref (ad 14), .ref (ad 15), .ref (ad 16), .ref (ad 17), .ref (ad 18), .ref (ad 19), .int (iv 20), .ref (ad 21), .ref (ad 22), .ref (ad 23), .ref (ad 24), .ref (ad 25), .ref (ad 26), .ref (ad 27), .ref (ad 28), .int (iv 29), .ref (ad 30), .ref (ad 31), .int (nI (an + 1)), .int (nI (gn + 1)), .int (nI (dn + (gr_jm n R k M u U cs 11).2)), .int v48, .long (tl + (((gr_jm n R k M u U cs 11).1).toInt64)), .int (iv 37), .int (nI (gm_name cs (sA 1) (eA 1))), .int (iv 39), .int (nI (gm_name cs (sA 1) (eA 1) + 1)), .ref (ad 41), .ref (ad 42), .int v32])) := by rw [u81]; exact pd_up_s _ _ _
          have f82 := k79 _ _ (pd_ne f73 f71 (by simp)) f73
          have f83 := k79 _ _ (pd_ne f74 f71 (by simp)) f74
          have f84 := k79 _ _ (pd_ne f75 f71 (by simp)) f75
          have f85 := k79 _ _ (pd_ne f76 f71 (by simp)) f76
          refine lv_iload_n hx hb d_p15m38_118 rfl (lv_at hl 0 rfl) ?_
          have mo86 : pd_MO G h78 y ad (pd_fu (pd_fu (pd_fu (pd_fu fv 30 f46) 31 f47) 41 f30) 42 f31) (pd_fu (pd_fu (pd_fu (pd_fu (pd_fu (pd_fu (pd_fu iv 34 (nI (dn + (gr_jm n R k M u U cs 11).2))) 35 v48) 38 (nI (gm_name cs (sA 1) (eA 1)))) 40 (nI (gm_name cs (sA 1) (eA 1) + 1))) 43 v32) 32 (nI (an + 1))) 33 (nI (gn + 1))) (tl + (((gr_jm n R k M u U cs 11).1).toInt64)) := pd_MO.of (ts := [20]) mo53 (pd_kx.tr (pd_kx.tr (pd_kq.kx (k60) hy54) (pd_kq.kx (k70) f61)) (pd_kq.kx (k79) f71)) f80 (fun j hj => Or.inr ⟨fun z => by first | (simp at z; done) | (simp at z; omega), rfl⟩)
          have hgn : gr_gn gn (gr_jm n R k M u U cs 11).1 = gn + 1 := by unfold gr_gn; rw [if_neg q67]
          have hpy : gr_pay tl (gr_jm n R k M u U cs 11).1 = tl + (((gr_jm n R k M u U cs 11).1).toInt64) := by unfold gr_pay; rw [if_neg q67, if_pos q77]
          exact pd_iret (v := ((gr_jm n R k M u U cs 11).1)) X w (Or.inr ⟨⟨hmem, hc2⟩, rfl, pd_kx.mono (us := [20, 60, 61, 71, 72]) (pd_kx.tr (pd_kx.tr (pd_kx.tr (pd_kx.tr (pd_kx.mono (us := [20, 71, 72, 60, 61]) (pd_kx.tr (pd_kx.mono (us := [20, 71, 72]) (k7) (by simp)) (k29)) (by simp)) (pd_kx.mono (us := [20, 71, 72, 60, 61]) (k45) (by simp))) (pd_kx.mono (us := [20, 71, 72, 60, 61]) (pd_kq.kx (k60) hy54) (by simp))) (pd_kx.mono (us := [20, 71, 72, 60, 61]) (pd_kq.kx (k70) f61) (by simp))) (pd_kx.mono (us := [20, 71, 72, 60, 61]) (pd_kq.kx (k79) f71) (by simp))) (by simp), f46, f47, f30, f31, v48, v32, (by rw [hgn, hpy]; exact pd_MO.ext mo86 (fun j9 hj9 => by by_cases e30 : j9 = 30; subst e30; rfl; by_cases e31 : j9 = 31; subst e31; rfl; by_cases e41 : j9 = 41; subst e41; rfl; by_cases e42 : j9 = 42; subst e42; rfl; simp only [pd_fu, if_neg e30, if_neg e31, if_neg e41, if_neg e42]) (rfl)), f50⟩) (by decide) (by decide) d_p15m38_119
        · -- not taken: 108
          refine lv_lconst (v := 1) hx hb d_p15m38_108 (by decide) ?_
          refine lv_goto (tgt := 114) hx hb d_p15m38_109 (by decide) ?_
          refine lv_ladd hx hb d_p15m38_114 ?_
          refine pd_put (ty := .long) X w f71 hz_y rfl 36 (by decide) mT_1175 rfl rfl (by decide +kernel) rfl rfl (Nat.le_of_ble_eq_true rfl) d_p15m38_115 (fun H locs w => ?_)
          have w : pd_w G s H locs (pd_up h69 y (20, .inr (10, [.ref (ad 0), .ref (ad 1), .ref (ad 2), .int (iv 3), .int (iv 4), .int (iv 5), .ref (ad 6), .ref (ad 7), .ref (ad 8), .ref (ad 9), .ref (ad 10), .ref (ad 11), .int (iv 12), .ref (ad 13), .ref (ad 14), .ref (ad 15), .ref (ad 16), .ref (ad 17), .ref (ad 18), .ref (ad 19), .int (iv 20), .ref (ad 21), .ref (ad 22), .ref (ad 23), .ref (ad 24), .ref (ad 25), .ref (ad 26), .ref (ad 27), .ref (ad 28), .int (iv 29), .ref (ad 30), .ref (ad 31), .int (nI (an + 1)), .int (nI (gn + 1)), .int (nI (dn + (gr_jm n R k M u U cs 11).2)), .int v48, .long (tl + 1), .int (iv 37), .int (nI (gm_name cs (sA 1) (eA 1))), .int (iv 39), .int (nI (gm_name cs (sA 1) (eA 1) + 1)), .ref (ad 41), .ref (ad 42), .int v32]))) := w
          obtain ⟨h87, u90⟩ : ∃ z, z = pd_up h69 y (20, .inr (10, [.ref (ad 0), .ref (ad 1), .ref (ad 2), .int (iv 3), .int (iv 4), .int (iv 5), .ref (ad 6), .ref (ad 7), .ref (ad 8), .ref (ad 9), .ref (ad 10), .ref (ad 11), .int (iv 12), .ref (ad 13), .ref (ad 14), .ref (ad 15), .ref (ad 16), .ref (ad 17), .ref (ad 18), .ref (ad 19), .int (iv 20), .ref (ad 21), .ref (ad 22), .ref (ad 23), .ref (ad 24), .ref (ad 25), .ref (ad 26), .ref (ad 27), .ref (ad 28), .int (iv 29), .ref (ad 30), .ref (ad 31), .int (nI (an + 1)), .int (nI (gn + 1)), .int (nI (dn + (gr_jm n R k M u U cs 11).2)), .int v48, .long (tl + 1), .int (iv 37), .int (nI (gm_name cs (sA 1) (eA 1))), .int (iv 39), .int (nI (gm_name cs (sA 1) (eA 1) + 1)), .ref (ad 41), .ref (ad 42), .int v32])) := ⟨_, rfl⟩
          rw [← u90] at w
          have k88 : pd_kq y h69 h87 := by rw [u90]; exact pd_up_kq
          have f89 : h87 y = some (20, .inr (10, [.ref (ad 0), .ref (ad 1), .ref (ad 2), .int (iv 3), .int (iv 4), .int (iv 5), .ref (ad 6), .ref (ad 7), .ref (ad 8), .ref (ad 9), .ref (ad 10), .ref (ad 11), .int (iv 12), .ref (ad 13), .ref (ad 14), .ref (ad 15), .ref (ad 16), .ref (ad 17), .ref (ad 18), .ref (ad 19), .int (iv 20), .ref (ad 21), .ref (ad 22), .ref (ad 23), .ref (ad 24), .ref (ad 25), .ref (ad 26), .ref (ad 27), .ref (ad 28), .int (iv 29), .ref (ad 30), .ref (ad 31), .int (nI (an + 1)), .int (nI (gn + 1)), .int (nI (dn + (gr_jm n R k M u U cs 11).2)), .int v48, .long (tl + 1), .int (iv 37), .int (nI (gm_name cs (sA 1) (eA 1))), .int (iv 39), .int (nI (gm_name cs (sA 1) (eA 1) + 1)), .ref (ad 41), .ref (ad 42), .int v32])) := by rw [u90]; exact pd_up_s _ _ _
          have f91 := k88 _ _ (pd_ne f73 f71 (by simp)) f73
          have f92 := k88 _ _ (pd_ne f74 f71 (by simp)) f74
          have f93 := k88 _ _ (pd_ne f75 f71 (by simp)) f75
          have f94 := k88 _ _ (pd_ne f76 f71 (by simp)) f76
          refine lv_iload_n hx hb d_p15m38_118 rfl (lv_at hl 0 rfl) ?_
          have mo95 : pd_MO G h87 y ad (pd_fu (pd_fu (pd_fu (pd_fu fv 30 f46) 31 f47) 41 f30) 42 f31) (pd_fu (pd_fu (pd_fu (pd_fu (pd_fu (pd_fu (pd_fu iv 34 (nI (dn + (gr_jm n R k M u U cs 11).2))) 35 v48) 38 (nI (gm_name cs (sA 1) (eA 1)))) 40 (nI (gm_name cs (sA 1) (eA 1) + 1))) 43 v32) 32 (nI (an + 1))) 33 (nI (gn + 1))) (tl + 1) := pd_MO.of (ts := [20]) mo53 (pd_kx.tr (pd_kx.tr (pd_kq.kx (k60) hy54) (pd_kq.kx (k70) f61)) (pd_kq.kx (k88) f71)) f89 (fun j hj => Or.inr ⟨fun z => by first | (simp at z; done) | (simp at z; omega), rfl⟩)
          have hgn : gr_gn gn (gr_jm n R k M u U cs 11).1 = gn + 1 := by unfold gr_gn; rw [if_neg q67]
          have hpy : gr_pay tl (gr_jm n R k M u U cs 11).1 = tl + 1 := by unfold gr_pay; rw [if_neg q67, if_neg q77]
          exact pd_iret (v := ((gr_jm n R k M u U cs 11).1)) X w (Or.inr ⟨⟨hmem, hc2⟩, rfl, pd_kx.mono (us := [20, 60, 61, 71, 72]) (pd_kx.tr (pd_kx.tr (pd_kx.tr (pd_kx.tr (pd_kx.mono (us := [20, 71, 72, 60, 61]) (pd_kx.tr (pd_kx.mono (us := [20, 71, 72]) (k7) (by simp)) (k29)) (by simp)) (pd_kx.mono (us := [20, 71, 72, 60, 61]) (k45) (by simp))) (pd_kx.mono (us := [20, 71, 72, 60, 61]) (pd_kq.kx (k60) hy54) (by simp))) (pd_kx.mono (us := [20, 71, 72, 60, 61]) (pd_kq.kx (k70) f61) (by simp))) (pd_kx.mono (us := [20, 71, 72, 60, 61]) (pd_kq.kx (k88) f71) (by simp))) (by simp), f46, f47, f30, f31, v48, v32, (by rw [hgn, hpy]; exact pd_MO.ext mo95 (fun j9 hj9 => by by_cases e30 : j9 = 30; subst e30; rfl; by_cases e31 : j9 = 31; subst e31; rfl; by_cases e41 : j9 = 41; subst e41; rfl; by_cases e42 : j9 = 42; subst e42; rfl; simp only [pd_fu, if_neg e30, if_neg e31, if_neg e41, if_neg e42]) (rfl)), f50⟩) (by decide) (by decide) d_p15m38_119
    · -- not taken: 36
      refine lv_goto (tgt := 58) hx hb d_p15m38_36 (by decide) ?_
      refine lv_iconst (v := -1) hx hb d_p15m38_58 (by decide) ?_
      exact pd_iret (v := (-1)) X w (Or.inl ⟨fun z => of_decide_eq_false (e23.symm.trans q24) z.2, rfl, pd_kx.mono (us := [20, 60, 61, 71, 72]) (k7) (by simp), f8⟩) (by decide) (by decide) d_p15m38_59
abbrev y_Mod_ask5 : MethodName := ⟨"PolicyDeskModel", "ask", "(I)I"⟩
theorem ok_Mod_ask5 : pd_ok y_Mod_ask5 prog_15_method_38_code 4 (some .int) 1 := ⟨mT_1392, mT_21, by decide, by decide +kernel⟩
abbrev rm_Mod_ask5 : Room := { frames := 6, cells := 0, slots := 0, locals := 136 }
set_option maxHeartbeats 4000000 in
set_option maxRecDepth 100000 in
theorem c_Mod_ask5 (l : Launch) (G : pd_G) (h : pd_H) {y : Nat} {ad : Nat → Nat} {fv : Nat → Nat → Int32} {iv : Nat → Int32} {tl : Int64} {cs : List Nat} {n : Nat} {R : Nat → pd_cr} {k : Nat} {M : Nat → pd_mr} {u : Nat} {U : Nat → pd_rr} {nw dn : Nat} {sA eA : Nat → Nat} {T : Nat → List Nat} {an gn : Nat} (hMO : pd_MO G h y ad fv iv tl) (hL : gm_L fv iv cs) (hC : gm_C fv iv n R) (hM : gm_M fv iv n k M) (hU : gm_U fv iv u U) (hK : gm_K n R) (hB : gm_B n R) (hV : gm_V k u U) (hW : gm_W fv cs nw sA eA) (hiv34 : iv 34 = nI dn) (hA : gm_A fv T) (hiv32 : iv 32 = nI an) (hiv33 : iv 33 = nI gn) (han : an < 1000) (hnw : 3 ≤ nw) (hw2 : tx_sub cs (sA 2) (eA 2) = gr_w cs 2) (hbda : gm_mem cs (sA 1) (eA 1) = true → tx_sub cs (sA 1) (gm_name cs (sA 1) (eA 1)) = gr_bd (gr_w cs 1) ∧ tx_sub cs (gm_name cs (sA 1) (eA 1) + 1) (eA 1) = gr_ad (gr_w cs 1)) (hism : gm_shape cs (sA 2) (eA 2) = true → gr_ism (gr_w cs 2) = true) : pd_M l y_Mod_ask5 prog_15_method_38_code 4 (some .int) rm_Mod_ask5 G h [.ref y, .int (nI 5)] Value.int (fun r h1 => (¬ (gm_mem cs (sA 1) (eA 1) = true ∧ gm_shape cs (sA 2) (eA 2) = true) ∧ r = -1 ∧ pd_kx [20, 60, 61, 71, 72] h h1 ∧ pd_MO G h1 y ad fv (pd_fu (pd_fu iv 38 (nI (gm_name cs (sA 1) (eA 1)))) 40 (nI (gm_name cs (sA 1) (eA 1) + 1))) tl) ∨ ((gm_mem cs (sA 1) (eA 1) = true ∧ gm_shape cs (sA 2) (eA 2) = true) ∧ r = (gr_jm n R k M u U cs 12).1 ∧ pd_kx [20, 60, 61, 71, 72] h h1 ∧ ∃ a1 a2 fo1 fo2 v35 v43, pd_MO G h1 y ad (pd_fu (pd_fu (pd_fu (pd_fu fv 30 a1) 31 a2) 41 fo1) 42 fo2) (pd_fu (pd_fu (pd_fu (pd_fu (pd_fu (pd_fu (pd_fu iv 38 (nI (gm_name cs (sA 1) (eA 1)))) 40 (nI (gm_name cs (sA 1) (eA 1) + 1))) 32 (nI (an + 1))) 33 (nI (gr_gn gn (gr_jm n R k M u U cs 12).1))) 34 (nI (dn + (gr_jm n R k M u U cs 12).2))) 35 v35) 43 v43) (gr_pay tl (gr_jm n R k M u U cs 12).1) ∧ gm_A (pd_fu (pd_fu (pd_fu (pd_fu fv 30 a1) 31 a2) 41 fo1) 42 fo2) (pd_fu T (an % 12) (gr_atx an cs (gr_jm n R k M u U cs 12).1)))) := by
  refine pd_M.of (by decide) (Nat.le_of_ble_eq_true rfl) ?_
  intro p e s m below meth c X hmn w ls hl
  have hx := X.1
  have hb := X.2.1
  have hl : lv_has ls 4 [(0, .ref y), (1, .int (nI 5))] := hl
  have hz_y := hMO.2.1
  have hy0 : h y = some (20, .inr (10, [.ref (ad 0), .ref (ad 1), .ref (ad 2), .int (iv 3), .int (iv 4), .int (iv 5), .ref (ad 6), .ref (ad 7), .ref (ad 8), .ref (ad 9), .ref (ad 10), .ref (ad 11), .int (iv 12), .ref (ad 13), .ref (ad 14), .ref (ad 15), .ref (ad 16), .ref (ad 17), .ref (ad 18), .ref (ad 19), .int (iv 20), .ref (ad 21), .ref (ad 22), .ref (ad 23), .ref (ad 24), .ref (ad 25), .ref (ad 26), .ref (ad 27), .ref (ad 28), .int (iv 29), .ref (ad 30), .ref (ad 31), .int (iv 32), .int (iv 33), .int (iv 34), .int (iv 35), .long tl, .int (iv 37), .int (iv 38), .int (iv 39), .int (iv 40), .ref (ad 41), .ref (ad 42), .int (iv 43)])) := hMO.1
  have ha30 : h (ad 30) = some (60, .inl (.int, 1152, .inl (fv 30))) := (hMO.2.2 30 (by decide)).1
  have ha31 : h (ad 31) = some (61, .inl (.int, 12, .inl (fv 31))) := (hMO.2.2 31 (by decide)).1
  have ha41 : h (ad 41) = some (71, .inl (.int, 16, .inl (fv 41))) := (hMO.2.2 41 (by decide)).1
  have ha42 : h (ad 42) = some (72, .inl (.int, 32, .inl (fv 42))) := (hMO.2.2 42 (by decide)).1
  have hw31 := hW.1
  have hwl1 := (hW.2 1 (by omega)).2.2
  refine lv_iload_n hx hb d_p15m38_0 rfl (lv_at hl 1 rfl) ?_
  refine lv_iconst (v := nI 3) hx hb d_p15m38_1 (by decide) ?_
  refine pd_jle (tgt := 9) hx hb d_p15m38_2 (by decide) (by decide) (by decide) (fun q => absurd q (by decide)) (fun _ => ?_)
  refine lv_iconst (v := nI 1) hx hb d_p15m38_5 (by decide) ?_
  refine lv_goto (tgt := 10) hx hb d_p15m38_6 (by decide) ?_
  refine lv_istore_n (lv' := [(2, .int (nI 1)), (0, .ref y), (1, .int (nI 5))]) hx hb d_p15m38_10 rfl hl (by decide) rfl (fun ls hl => ?_)
  refine lv_iload_n hx hb d_p15m38_11 rfl (lv_at hl 0 rfl) ?_
  refine pd_zeq (tgt := 50) hx hb d_p15m38_12 (by decide) (by decide) (fun q => absurd q (by decide)) (fun _ => ?_)
  refine lv_aload_n hx hb d_p15m38_15 rfl (lv_at hl 1 rfl) ?_
  refine lv_iconst (v := nI 1) hx hb d_p15m38_16 (by decide) ?_
  refine pd_cV (a := y) (As := [.int (nI 1)]) (rest := []) X w hy0 rfl (c_Mod_isMember l G h (cs := cs) (nw := nw) (sA := sA) (eA := eA) (ad := ad) (fv := fv) (iv := iv) (tl := tl) hMO hL hW (by omega)) ok_Mod_isMember ⟨mT_1340, sT_24⟩ mT_1338 ⟨by decide, by decide⟩ rfl hl.1 rfl (Nat.le_of_ble_eq_true rfl) d_p15m38_17 ⟨by decide, by decide⟩ (fun r3 h4 H locs hp5 w => ?_)
  refine W.widen (k := 0) (n := 0) (by decide) (by decide) ?_
  obtain ⟨e6, k7, f8⟩ := hp5
  have f9 := k7 _ _ ha30 (show (60 : Nat) ∉ [20] by decide)
  have f10 := k7 _ _ ha31 (show (61 : Nat) ∉ [20] by decide)
  have f11 := k7 _ _ ha41 (show (71 : Nat) ∉ [20] by decide)
  have f12 := k7 _ _ ha42 (show (72 : Nat) ∉ [20] by decide)
  have hy13 : h4 y = some (20, .inr (10, [.ref (ad 0), .ref (ad 1), .ref (ad 2), .int (iv 3), .int (iv 4), .int (iv 5), .ref (ad 6), .ref (ad 7), .ref (ad 8), .ref (ad 9), .ref (ad 10), .ref (ad 11), .int (iv 12), .ref (ad 13), .ref (ad 14), .ref (ad 15), .ref (ad 16), .ref (ad 17), .ref (ad 18), .ref (ad 19), .int (iv 20), .ref (ad 21), .ref (ad 22), .ref (ad 23), .ref (ad 24), .ref (ad 25), .ref (ad 26), .ref (ad 27), .ref (ad 28), .int (iv 29), .ref (ad 30), .ref (ad 31), .int (iv 32), .int (iv 33), .int (iv 34), .int (iv 35), .long tl, .int (iv 37), .int (nI (gm_name cs (sA 1) (eA 1))), .int (iv 39), .int (nI (gm_name cs (sA 1) (eA 1) + 1)), .ref (ad 41), .ref (ad 42), .int (iv 43)])) := f8.1
  have ha14 : h4 (ad 30) = some (60, .inl (.int, 1152, .inl (fv 30))) := (f8.2.2 30 (by decide)).1
  have ha15 : h4 (ad 31) = some (61, .inl (.int, 12, .inl (fv 31))) := (f8.2.2 31 (by decide)).1
  have ha16 : h4 (ad 41) = some (71, .inl (.int, 16, .inl (fv 41))) := (f8.2.2 41 (by decide)).1
  have ha17 : h4 (ad 42) = some (72, .inl (.int, 32, .inl (fv 42))) := (f8.2.2 42 (by decide)).1
  refine pd_beq (tgt := 58) hx hb d_p15m38_20 (by decide) (fun q18 => ?_) (fun q18 => ?_)
  · -- taken: 58
    refine lv_iconst (v := -1) hx hb d_p15m38_58 (by decide) ?_
    exact pd_iret (v := (-1)) X w (Or.inl ⟨(fun z => by have z1 := z.1; rw [← e6, q18] at z1; cases z1), rfl, pd_kx.mono (us := [20, 60, 61, 71, 72]) (k7) (by simp), f8⟩) (by decide) (by decide) d_p15m38_59
  · -- not taken: 23
    have hmem := e6.symm.trans q18
    have hmb := of_decide_eq_true hmem
    refine lv_iload_n hx hb d_p15m38_23 rfl (lv_at hl 2 rfl) ?_
    refine lv_iconst (v := nI 4) hx hb d_p15m38_24 (by decide) ?_
    refine pd_jne (tgt := 39) hx hb d_p15m38_25 (by decide) (by decide) (by decide) (fun _ => ?_) (fun q => absurd q (by decide))
    refine lv_aload_n hx hb d_p15m38_39 rfl (lv_at hl 1 rfl) ?_
    refine lv_iconst (v := nI 2) hx hb d_p15m38_40 (by decide) ?_
    refine pd_cV (a := y) (As := [.int (nI 2)]) (rest := []) X w hy13 rfl (c_Mod_isShape l G h4 (cs := cs) (nw := nw) (sA := sA) (eA := eA) (ad := ad) (fv := fv) (iv := pd_fu (pd_fu iv 38 (nI (gm_name cs (sA 1) (eA 1)))) 40 (nI (gm_name cs (sA 1) (eA 1) + 1))) (tl := tl) f8 hL hW (by omega)) ok_Mod_isShape ⟨mT_1344, sT_25⟩ mT_1342 ⟨by decide, by decide⟩ rfl hl.1 rfl (Nat.le_of_ble_eq_true rfl) d_p15m38_41 ⟨by decide, by decide⟩ (fun r20 h21 H locs hp22 w => ?_)
    refine W.widen (k := 0) (n := 0) (by decide) (by decide) ?_
    obtain ⟨e23, rfl⟩ := hp22
    refine pd_bne (tgt := 60) hx hb d_p15m38_44 (by decide) (fun q24 => ?_) (fun q24 => ?_)
    · -- taken: 60
      have hc2 : gm_shape cs (sA 2) (eA 2) = true := e23.symm.trans q24
      refine lv_aload_n hx hb d_p15m38_60 rfl (lv_at hl 1 rfl) ?_
      refine lv_iload_n hx hb d_p15m38_61 rfl (lv_at hl 2 rfl) ?_
      refine lv_iload_n hx hb d_p15m38_62 rfl (lv_at hl 0 rfl) ?_
      refine pd_cV (a := y) (As := [.int (nI 5), .int (nI 1)]) (rest := []) X w hy13 rfl (c_Mod_answerM5 l G h4 (cs := cs) (n := n) (R := R) (k := k) (M := M) (u := u) (U := U) (nw := nw) (dn := dn) (sA := sA) (eA := eA) (ne := gm_name cs (sA 1) (eA 1)) (tf := gm_name cs (sA 1) (eA 1) + 1) (ad := ad) (fv := fv) (iv := pd_fu (pd_fu iv 38 (nI (gm_name cs (sA 1) (eA 1)))) 40 (nI (gm_name cs (sA 1) (eA 1) + 1))) (tl := tl) f8 hL hC hM hU hK hB hV hW hiv34 (by omega) rfl rfl (hbda hmem).1 (hbda hmem).2 hw2 (hism hc2) (by omega) (by omega)) ok_Mod_answerM5 ⟨mT_1395, sT_36⟩ mT_1393 ⟨by decide, by decide⟩ rfl hl.1 rfl (Nat.le_of_ble_eq_true rfl) d_p15m38_63 ⟨by decide, by decide⟩ (fun r25 h26 H locs hp27 w => ?_)
      refine W.widen (k := 0) (n := 0) (by decide) (by decide) ?_
      obtain ⟨e28, k29, f30, f31, v32, f33⟩ := hp27
      have f34 := k29 _ _ ha14 (show (60 : Nat) ∉ [20, 71, 72] by decide)
      have f35 := k29 _ _ ha15 (show (61 : Nat) ∉ [20, 71, 72] by decide)
      subst e28
      have mo36 : pd_MO G h26 y ad (pd_fu (pd_fu fv 41 f30) 42 f31) (pd_fu (pd_fu (pd_fu (pd_fu iv 34 (nI (dn + (gr_jm n R k M u U cs 12).2))) 38 (nI (gm_name cs (sA 1) (eA 1)))) 40 (nI (gm_name cs (sA 1) (eA 1) + 1))) 43 v32) tl := pd_MO.ext f33 (fun j9 hj9 => by by_cases e941 : j9 = 41; subst e941; rfl; by_cases e942 : j9 = 42; subst e942; rfl; simp only [pd_fu, if_neg e941, if_neg e942]) rfl
      have hy37 : h26 y = some (20, .inr (10, [.ref (ad 0), .ref (ad 1), .ref (ad 2), .int (iv 3), .int (iv 4), .int (iv 5), .ref (ad 6), .ref (ad 7), .ref (ad 8), .ref (ad 9), .ref (ad 10), .ref (ad 11), .int (iv 12), .ref (ad 13), .ref (ad 14), .ref (ad 15), .ref (ad 16), .ref (ad 17), .ref (ad 18), .ref (ad 19), .int (iv 20), .ref (ad 21), .ref (ad 22), .ref (ad 23), .ref (ad 24), .ref (ad 25), .ref (ad 26), .ref (ad 27), .ref (ad 28), .int (iv 29), .ref (ad 30), .ref (ad 31), .int (iv 32), .int (iv 33), .int (nI (dn + (gr_jm n R k M u U cs 12).2)), .int (iv 35), .long tl, .int (iv 37), .int (nI (gm_name cs (sA 1) (eA 1))), .int (iv 39), .int (nI (gm_name cs (sA 1) (eA 1) + 1)), .ref (ad 41), .ref (ad 42), .int v32])) := mo36.1
      have ha38 : h26 (ad 30) = some (60, .inl (.int, 1152, .inl (fv 30))) := (mo36.2.2 30 (by decide)).1
      have ha39 : h26 (ad 31) = some (61, .inl (.int, 12, .inl (fv 31))) := (mo36.2.2 31 (by decide)).1
      have ha40 : h26 (ad 41) = some (71, .inl (.int, 16, .inl (f30))) := (mo36.2.2 41 (by decide)).1
      have ha41 : h26 (ad 42) = some (72, .inl (.int, 32, .inl (f31))) := (mo36.2.2 42 (by decide)).1
      refine lv_istore_n (lv' := [(3, .int ((gr_jm n R k M u U cs 12).1)), (2, .int (nI 1)), (0, .ref y), (1, .int (nI 5))]) hx hb d_p15m38_66 rfl hl (by decide) rfl (fun ls hl => ?_)
      have haok : gr_aok (gr_jm n R k M u U cs 12).1 := gr_jm_ok (fun i9 hi9 => (hV i9 hi9).2.2) (gm_V_s hV) hM.2.1
      refine lv_aload_n hx hb d_p15m38_67 rfl (lv_at hl 2 rfl) ?_
      refine lv_iload_n hx hb d_p15m38_68 rfl (lv_at hl 0 rfl) ?_
      refine pd_cVv (a := y) (As := [.int ((gr_jm n R k M u U cs 12).1)]) (rest := []) X w hy37 rfl (c_Mod_write l G h26 (cs := cs) (an := an) (T := T) (ans := (gr_jm n R k M u U cs 12).1) (ad := ad) (fv := pd_fu (pd_fu fv 41 f30) 42 f31) (iv := pd_fu (pd_fu (pd_fu (pd_fu iv 34 (nI (dn + (gr_jm n R k M u U cs 12).2))) 38 (nI (gm_name cs (sA 1) (eA 1)))) 40 (nI (gm_name cs (sA 1) (eA 1) + 1))) 43 v32) (tl := tl) mo36 hL hA hiv32 (by omega) haok) ok_Mod_write ⟨mT_1431, sT_45⟩ mT_1429 ⟨by decide, by decide⟩ rfl hl.1 rfl (Nat.le_of_ble_eq_true rfl) d_p15m38_69 ⟨by decide, by decide⟩ (fun h43 H locs hp44 w => ?_)
      refine W.widen (k := 0) (n := 0) (by decide) (by decide) ?_
      obtain ⟨k45, f46, f47, v48, f49, f50⟩ := hp44
      have f51 := k45 _ _ ha40 (show (71 : Nat) ∉ [20, 60, 61] by decide)
      have f52 := k45 _ _ ha41 (show (72 : Nat) ∉ [20, 60, 61] by decide)
      have mo53 : pd_MO G h43 y ad (pd_fu (pd_fu (pd_fu (pd_fu fv 30 f46) 31 f47) 41 f30) 42 f31) (pd_fu (pd_fu (pd_fu (pd_fu (pd_fu iv 34 (nI (dn + (gr_jm n R k M u U cs 12).2))) 35 v48) 38 (nI (gm_name cs (sA 1) (eA 1)))) 40 (nI (gm_name cs (sA 1) (eA 1) + 1))) 43 v32) tl := pd_MO.ext f49 (fun j9 hj9 => by by_cases e930 : j9 = 30; subst e930; rfl; by_cases e931 : j9 = 31; subst e931; rfl; by_cases e941 : j9 = 41; subst e941; rfl; by_cases e942 : j9 = 42; subst e942; rfl; simp only [pd_fu, if_neg e930, if_neg e931, if_neg e941, if_neg e942]) rfl
      have hy54 : h43 y = some (20, .inr (10, [.ref (ad 0), .ref (ad 1), .ref (ad 2), .int (iv 3), .int (iv 4), .int (iv 5), .ref (ad 6), .ref (ad 7), .ref (ad 8), .ref (ad 9), .ref (ad 10), .ref (ad 11), .int (iv 12), .ref (ad 13), .ref (ad 14), .ref (ad 15), .ref (ad 16), .ref (ad 17), .ref (ad 18), .ref (ad 19), .int (iv 20), .ref (ad 21), .ref (ad 22), .ref (ad 23), .ref (ad 24), .ref (ad 25), .ref (ad 26), .ref (ad 27), .ref (ad 28), .int (iv 29), .ref (ad 30), .ref (ad 31), .int (iv 32), .int (iv 33), .int (nI (dn + (gr_jm n R k M u U cs 12).2)), .int v48, .long tl, .int (iv 37), .int (nI (gm_name cs (sA 1) (eA 1))), .int (iv 39), .int (nI (gm_name cs (sA 1) (eA 1) + 1)), .ref (ad 41), .ref (ad 42), .int v32])) := mo53.1
      have ha55 : h43 (ad 30) = some (60, .inl (.int, 1152, .inl (f46))) := (mo53.2.2 30 (by decide)).1
      have ha56 : h43 (ad 31) = some (61, .inl (.int, 12, .inl (f47))) := (mo53.2.2 31 (by decide)).1
      have ha57 : h43 (ad 41) = some (71, .inl (.int, 16, .inl (f30))) := (mo53.2.2 41 (by decide)).1
      have ha58 : h43 (ad 42) = some (72, .inl (.int, 32, .inl (f31))) := (mo53.2.2 42 (by decide)).1
      refine lv_aload_n hx hb d_p15m38_72 rfl (lv_at hl 2 rfl) ?_
      refine lv_dup hx hb d_p15m38_73 rfl ?_
      refine pd_get X w hy54 rfl 32 (by decide) mT_1171 rfl rfl d_p15m38_74 ?_
      refine pd_top (v' := .int (nI an)) (congrArg Value.int hiv32) ?_
      refine lv_iconst (v := nI 1) hx hb d_p15m38_77 (by decide) ?_
      refine pd_iadd hx hb d_p15m38_78 ?_
      refine pd_put (ty := .int) X w hy54 hz_y rfl 32 (by decide) mT_1171 rfl rfl (by decide +kernel) rfl rfl (Nat.le_of_ble_eq_true rfl) d_p15m38_79 (fun H locs w => ?_)
      have w : pd_w G s H locs (pd_up h43 y (20, .inr (10, [.ref (ad 0), .ref (ad 1), .ref (ad 2), .int (iv 3), .int (iv 4), .int (iv 5), .ref (ad 6), .ref (ad 7), .ref (ad 8), .ref (ad 9), .ref (ad 10), .ref (ad 11), .int (iv 12), .ref (ad 13), .ref (ad 14), .ref (ad 15), .ref (ad 16), .ref (ad 17), .ref (ad 18), .ref (ad 19), .int (iv 20), .ref (ad 21), .ref (ad 22), .ref (ad 23), .ref (ad 24), .ref (ad 25), .ref (ad 26), .ref (ad 27), .ref (ad 28), .int (iv 29), .ref (ad 30), .ref (ad 31), .int (nI (an + 1)), .int (iv 33), .int (nI (dn + (gr_jm n R k M u U cs 12).2)), .int v48, .long tl, .int (iv 37), .int (nI (gm_name cs (sA 1) (eA 1))), .int (iv 39), .int (nI (gm_name cs (sA 1) (eA 1) + 1)), .ref (ad 41), .ref (ad 42), .int v32]))) := w
      obtain ⟨h59, u62⟩ : ∃ z, z = pd_up h43 y (20, .inr (10, [.ref (ad 0), .ref (ad 1), .ref (ad 2), .int (iv 3), .int (iv 4), .int (iv 5), .ref (ad 6), .ref (ad 7), .ref (ad 8), .ref (ad 9), .ref (ad 10), .ref (ad 11), .int (iv 12), .ref (ad 13), .ref (ad 14), .ref (ad 15), .ref (ad 16), .ref (ad 17), .ref (ad 18), .ref (ad 19), .int (iv 20), .ref (ad 21), .ref (ad 22), .ref (ad 23), .ref (ad 24), .ref (ad 25), .ref (ad 26), .ref (ad 27), .ref (ad 28), .int (iv 29), .ref (ad 30), .ref (ad 31), .int (nI (an + 1)), .int (iv 33), .int (nI (dn + (gr_jm n R k M u U cs 12).2)), .int v48, .long tl, .int (iv 37), .int (nI (gm_name cs (sA 1) (eA 1))), .int (iv 39), .int (nI (gm_name cs (sA 1) (eA 1) + 1)), .ref (ad 41), .ref (ad 42), .int v32])) := ⟨_, rfl⟩
      rw [← u62] at w
      have k60 : pd_kq y h43 h59 := by rw [u62]; exact pd_up_kq
      have f61 : h59 y = some (20, .inr (10, [.ref (ad 0), .ref (ad 1), .ref (ad 2), .int (iv 3), .int (iv 4), .int (iv 5), .ref (ad 6), .ref (ad 7), .ref (ad 8), .ref (ad 9), .ref (ad 10), .ref (ad 11), .int (iv 12), .ref (ad 13), .ref (ad 14), .ref (ad 15), .ref (ad 16), .ref (ad 17), .ref (ad 18), .ref (ad 19), .int (iv 20), .ref (ad 21), .ref (ad 22), .ref (ad 23), .ref (ad 24), .ref (ad 25), .ref (ad 26), .ref (ad 27), .ref (ad 28), .int (iv 29), .ref (ad 30), .ref (ad 31), .int (nI (an + 1)), .int (iv 33), .int (nI (dn + (gr_jm n R k M u U cs 12).2)), .int v48, .long tl, .int (iv 37), .int (nI (gm_name cs (sA 1) (eA 1))), .int (iv 39), .int (nI (gm_name cs (sA 1) (eA 1) + 1)), .ref (ad 41), .ref (ad 42), .int v32])) := by rw [u62]; exact pd_up_s _ _ _
      have f63 := k60 _ _ (pd_ne ha57 hy54 (by simp)) ha57
      have f64 := k60 _ _ (pd_ne ha58 hy54 (by simp)) ha58
      have f65 := k60 _ _ (pd_ne ha55 hy54 (by simp)) ha55
      have f66 := k60 _ _ (pd_ne ha56 hy54 (by simp)) ha56
      refine lv_iload_n hx hb d_p15m38_82 rfl (lv_at hl 0 rfl) ?_
      refine lv_if_lt (tgt := 118) hx hb d_p15m38_83 (by decide) (fun q67 => ?_) (fun q67 => ?_)
      · -- taken: 118
        refine lv_iload_n hx hb d_p15m38_118 rfl (lv_at hl 0 rfl) ?_
        have mo68 : pd_MO G h59 y ad (pd_fu (pd_fu (pd_fu (pd_fu fv 30 f46) 31 f47) 41 f30) 42 f31) (pd_fu (pd_fu (pd_fu (pd_fu (pd_fu (pd_fu iv 34 (nI (dn + (gr_jm n R k M u U cs 12).2))) 35 v48) 38 (nI (gm_name cs (sA 1) (eA 1)))) 40 (nI (gm_name cs (sA 1) (eA 1) + 1))) 43 v32) 32 (nI (an + 1))) tl := pd_MO.of (ts := [20]) mo53 (pd_kq.kx (k60) hy54) f61 (fun j hj => Or.inr ⟨fun z => by first | (simp at z; done) | (simp at z; omega), rfl⟩)
        have hgn : gr_gn gn (gr_jm n R k M u U cs 12).1 = gn := by unfold gr_gn; rw [if_pos q67]
        have hpy : gr_pay tl (gr_jm n R k M u U cs 12).1 = tl := by unfold gr_pay; rw [if_pos q67]
        exact pd_iret (v := ((gr_jm n R k M u U cs 12).1)) X w (Or.inr ⟨⟨hmem, hc2⟩, rfl, pd_kx.mono (us := [20, 60, 61, 71, 72]) (pd_kx.tr (pd_kx.tr (pd_kx.mono (us := [20, 71, 72, 60, 61]) (pd_kx.tr (pd_kx.mono (us := [20, 71, 72]) (k7) (by simp)) (k29)) (by simp)) (pd_kx.mono (us := [20, 71, 72, 60, 61]) (k45) (by simp))) (pd_kx.mono (us := [20, 71, 72, 60, 61]) (pd_kq.kx (k60) hy54) (by simp))) (by simp), f46, f47, f30, f31, v48, v32, (by rw [hgn, hpy]; exact pd_MO.ext mo68 (fun j9 hj9 => by by_cases e30 : j9 = 30; subst e30; rfl; by_cases e31 : j9 = 31; subst e31; rfl; by_cases e41 : j9 = 41; subst e41; rfl; by_cases e42 : j9 = 42; subst e42; rfl; simp only [pd_fu, if_neg e30, if_neg e31, if_neg e41, if_neg e42]) (by show pd_mv ad (pd_fu (pd_fu (pd_fu (pd_fu (pd_fu (pd_fu (pd_fu iv 38 (nI (gm_name cs (sA 1) (eA 1)))) 40 (nI (gm_name cs (sA 1) (eA 1) + 1))) 32 _) 33 (nI gn)) 34 _) 35 _) 43 _) _ = _; exact congrArg (fun z => pd_mv ad (pd_fu (pd_fu (pd_fu (pd_fu (pd_fu (pd_fu (pd_fu iv 38 (nI (gm_name cs (sA 1) (eA 1)))) 40 (nI (gm_name cs (sA 1) (eA 1) + 1))) 32 _) 33 z) 34 _) 35 _) 43 _) _) hiv33.symm)), f50⟩) (by decide) (by decide) d_p15m38_119
      · -- not taken: 86
        refine lv_aload_n hx hb d_p15m38_86 rfl (lv_at hl 2 rfl) ?_
        refine lv_dup hx hb d_p15m38_87 rfl ?_
        refine pd_get X w f61 rfl 33 (by decide) mT_1172 rfl rfl d_p15m38_88 ?_
        refine pd_top (v' := .int (nI gn)) (congrArg Value.int hiv33) ?_
        refine lv_iconst (v := nI 1) hx hb d_p15m38_91 (by decide) ?_
        refine pd_iadd hx hb d_p15m38_92 ?_
        refine pd_put (ty := .int) X w f61 hz_y rfl 33 (by decide) mT_1172 rfl rfl (by decide +kernel) rfl rfl (Nat.le_of_ble_eq_true rfl) d_p15m38_93 (fun H locs w => ?_)
        have w : pd_w G s H locs (pd_up h59 y (20, .inr (10, [.ref (ad 0), .ref (ad 1), .ref (ad 2), .int (iv 3), .int (iv 4), .int (iv 5), .ref (ad 6), .ref (ad 7), .ref (ad 8), .ref (ad 9), .ref (ad 10), .ref (ad 11), .int (iv 12), .ref (ad 13), .ref (ad 14), .ref (ad 15), .ref (ad 16), .ref (ad 17), .ref (ad 18), .ref (ad 19), .int (iv 20), .ref (ad 21), .ref (ad 22), .ref (ad 23), .ref (ad 24), .ref (ad 25), .ref (ad 26), .ref (ad 27), .ref (ad 28), .int (iv 29), .ref (ad 30), .ref (ad 31), .int (nI (an + 1)), .int (nI (gn + 1)), .int (nI (dn + (gr_jm n R k M u U cs 12).2)), .int v48, .long tl, .int (iv 37), .int (nI (gm_name cs (sA 1) (eA 1))), .int (iv 39), .int (nI (gm_name cs (sA 1) (eA 1) + 1)), .ref (ad 41), .ref (ad 42), .int v32]))) := w
        obtain ⟨h69, u72⟩ : ∃ z, z = pd_up h59 y (20, .inr (10, [.ref (ad 0), .ref (ad 1), .ref (ad 2), .int (iv 3), .int (iv 4), .int (iv 5), .ref (ad 6), .ref (ad 7), .ref (ad 8), .ref (ad 9), .ref (ad 10), .ref (ad 11), .int (iv 12), .ref (ad 13), .ref (ad 14), .ref (ad 15), .ref (ad 16), .ref (ad 17), .ref (ad 18), .ref (ad 19), .int (iv 20), .ref (ad 21), .ref (ad 22), .ref (ad 23), .ref (ad 24), .ref (ad 25), .ref (ad 26), .ref (ad 27), .ref (ad 28), .int (iv 29), .ref (ad 30), .ref (ad 31), .int (nI (an + 1)), .int (nI (gn + 1)), .int (nI (dn + (gr_jm n R k M u U cs 12).2)), .int v48, .long tl, .int (iv 37), .int (nI (gm_name cs (sA 1) (eA 1))), .int (iv 39), .int (nI (gm_name cs (sA 1) (eA 1) + 1)), .ref (ad 41), .ref (ad 42), .int v32])) := ⟨_, rfl⟩
        rw [← u72] at w
        have k70 : pd_kq y h59 h69 := by rw [u72]; exact pd_up_kq
        have f71 : h69 y = some (20, .inr (10, [.ref (ad 0), .ref (ad 1), .ref (ad 2), .int (iv 3), .int (iv 4), .int (iv 5), .ref (ad 6), .ref (ad 7), .ref (ad 8), .ref (ad 9), .ref (ad 10), .ref (ad 11), .int (iv 12), .ref (ad 13), .ref (ad 14), .ref (ad 15), .ref (ad 16), .ref (ad 17), .ref (ad 18), .ref (ad 19), .int (iv 20), .ref (ad 21), .ref (ad 22), .ref (ad 23), .ref (ad 24), .ref (ad 25), .ref (ad 26), .ref (ad 27), .ref (ad 28), .int (iv 29), .ref (ad 30), .ref (ad 31), .int (nI (an + 1)), .int (nI (gn + 1)), .int (nI (dn + (gr_jm n R k M u U cs 12).2)), .int v48, .long tl, .int (iv 37), .int (nI (gm_name cs (sA 1) (eA 1))), .int (iv 39), .int (nI (gm_name cs (sA 1) (eA 1) + 1)), .ref (ad 41), .ref (ad 42), .int v32])) := by rw [u72]; exact pd_up_s _ _ _
        have f73 := k70 _ _ (pd_ne f63 f61 (by simp)) f63
        have f74 := k70 _ _ (pd_ne f64 f61 (by simp)) f64
        have f75 := k70 _ _ (pd_ne f65 f61 (by simp)) f65
        have f76 := k70 _ _ (pd_ne f66 f61 (by simp)) f66
        refine lv_aload_n hx hb d_p15m38_96 rfl (lv_at hl 2 rfl) ?_
        refine lv_dup hx hb d_p15m38_97 rfl ?_
        refine pd_get X w f71 rfl 36 (by decide) mT_1175 rfl rfl d_p15m38_98 ?_
        refine lv_iload_n hx hb d_p15m38_101 rfl (lv_at hl 0 rfl) ?_
        refine lv_sipush (v := nI 10000) hx hb d_p15m38_102 (by decide) ?_
        refine lv_icmp_lt (tgt := 112) hx hb d_p15m38_105 (by decide) (fun q77 => ?_) (fun q77 => ?_)
        · -- taken: 112
          refine lv_iload_n hx hb d_p15m38_112 rfl (lv_at hl 0 rfl) ?_
          refine lv_i2l hx hb d_p15m38_113 rfl ?_
          refine lv_ladd hx hb d_p15m38_114 ?_
          refine pd_put (ty := .long) X w f71 hz_y rfl 36 (by decide) mT_1175 rfl rfl (by decide +kernel) rfl rfl (Nat.le_of_ble_eq_true rfl) d_p15m38_115 (fun H locs w => ?_)
          have w : pd_w G s H locs (pd_up h69 y (20, .inr (10, [.ref (ad 0), .ref (ad 1), .ref (ad 2), .int (iv 3), .int (iv 4), .int (iv 5), .ref (ad 6), .ref (ad 7), .ref (ad 8), .ref (ad 9), .ref (ad 10), .ref (ad 11), .int (iv 12), .ref (ad 13), .ref (ad 14), .ref (ad 15), .ref (ad 16), .ref (ad 17), .ref (ad 18), .ref (ad 19), .int (iv 20), .ref (ad 21), .ref (ad 22), .ref (ad 23), .ref (ad 24), .ref (ad 25), .ref (ad 26), .ref (ad 27), .ref (ad 28), .int (iv 29), .ref (ad 30), .ref (ad 31), .int (nI (an + 1)), .int (nI (gn + 1)), .int (nI (dn + (gr_jm n R k M u U cs 12).2)), .int v48, .long (tl + (((gr_jm n R k M u U cs 12).1).toInt64)), .int (iv 37), .int (nI (gm_name cs (sA 1) (eA 1))), .int (iv 39), .int (nI (gm_name cs (sA 1) (eA 1) + 1)), .ref (ad 41), .ref (ad 42), .int v32]))) := w
          obtain ⟨h78, u81⟩ : ∃ z, z = pd_up h69 y (20, .inr (10, [.ref (ad 0), .ref (ad 1), .ref (ad 2), .int (iv 3), .int (iv 4), .int (iv 5), .ref (ad 6), .ref (ad 7), .ref (ad 8), .ref (ad 9), .ref (ad 10), .ref (ad 11), .int (iv 12), .ref (ad 13), .ref (ad 14), .ref (ad 15), .ref (ad 16), .ref (ad 17), .ref (ad 18), .ref (ad 19), .int (iv 20), .ref (ad 21), .ref (ad 22), .ref (ad 23), .ref (ad 24), .ref (ad 25), .ref (ad 26), .ref (ad 27), .ref (ad 28), .int (iv 29), .ref (ad 30), .ref (ad 31), .int (nI (an + 1)), .int (nI (gn + 1)), .int (nI (dn + (gr_jm n R k M u U cs 12).2)), .int v48, .long (tl + (((gr_jm n R k M u U cs 12).1).toInt64)), .int (iv 37), .int (nI (gm_name cs (sA 1) (eA 1))), .int (iv 39), .int (nI (gm_name cs (sA 1) (eA 1) + 1)), .ref (ad 41), .ref (ad 42), .int v32])) := ⟨_, rfl⟩
          rw [← u81] at w
          have k79 : pd_kq y h69 h78 := by rw [u81]; exact pd_up_kq
          have f80 : h78 y = some (20, .inr (10, [.ref (ad 0), .ref (ad 1), .ref (ad 2), .int (iv 3), .int (iv 4), .int (iv 5), .ref (ad 6), .ref (ad 7), .ref (ad 8), .ref (ad 9), .ref (ad 10), .ref (ad 11), .int (iv 12), .ref (ad 13), .ref (ad 14), .ref (ad 15), .ref (ad 16), .ref (ad 17), .ref (ad 18), .ref (ad 19), .int (iv 20), .ref (ad 21), .ref (ad 22), .ref (ad 23), .ref (ad 24), .ref (ad 25), .ref (ad 26), .ref (ad 27), .ref (ad 28), .int (iv 29), .ref (ad 30), .ref (ad 31), .int (nI (an + 1)), .int (nI (gn + 1)), .int (nI (dn + (gr_jm n R k M u U cs 12).2)), .int v48, .long (tl + (((gr_jm n R k M u U cs 12).1).toInt64)), .int (iv 37), .int (nI (gm_name cs (sA 1) (eA 1))), .int (iv 39), .int (nI (gm_name cs (sA 1) (eA 1) + 1)), .ref (ad 41), .ref (ad 42), .int v32])) := by rw [u81]; exact pd_up_s _ _ _
          have f82 := k79 _ _ (pd_ne f73 f71 (by simp)) f73
          have f83 := k79 _ _ (pd_ne f74 f71 (by simp)) f74
          have f84 := k79 _ _ (pd_ne f75 f71 (by simp)) f75
          have f85 := k79 _ _ (pd_ne f76 f71 (by simp)) f76
          refine lv_iload_n hx hb d_p15m38_118 rfl (lv_at hl 0 rfl) ?_
          have mo86 : pd_MO G h78 y ad (pd_fu (pd_fu (pd_fu (pd_fu fv 30 f46) 31 f47) 41 f30) 42 f31) (pd_fu (pd_fu (pd_fu (pd_fu (pd_fu (pd_fu (pd_fu iv 34 (nI (dn + (gr_jm n R k M u U cs 12).2))) 35 v48) 38 (nI (gm_name cs (sA 1) (eA 1)))) 40 (nI (gm_name cs (sA 1) (eA 1) + 1))) 43 v32) 32 (nI (an + 1))) 33 (nI (gn + 1))) (tl + (((gr_jm n R k M u U cs 12).1).toInt64)) := pd_MO.of (ts := [20]) mo53 (pd_kx.tr (pd_kx.tr (pd_kq.kx (k60) hy54) (pd_kq.kx (k70) f61)) (pd_kq.kx (k79) f71)) f80 (fun j hj => Or.inr ⟨fun z => by first | (simp at z; done) | (simp at z; omega), rfl⟩)
          have hgn : gr_gn gn (gr_jm n R k M u U cs 12).1 = gn + 1 := by unfold gr_gn; rw [if_neg q67]
          have hpy : gr_pay tl (gr_jm n R k M u U cs 12).1 = tl + (((gr_jm n R k M u U cs 12).1).toInt64) := by unfold gr_pay; rw [if_neg q67, if_pos q77]
          exact pd_iret (v := ((gr_jm n R k M u U cs 12).1)) X w (Or.inr ⟨⟨hmem, hc2⟩, rfl, pd_kx.mono (us := [20, 60, 61, 71, 72]) (pd_kx.tr (pd_kx.tr (pd_kx.tr (pd_kx.tr (pd_kx.mono (us := [20, 71, 72, 60, 61]) (pd_kx.tr (pd_kx.mono (us := [20, 71, 72]) (k7) (by simp)) (k29)) (by simp)) (pd_kx.mono (us := [20, 71, 72, 60, 61]) (k45) (by simp))) (pd_kx.mono (us := [20, 71, 72, 60, 61]) (pd_kq.kx (k60) hy54) (by simp))) (pd_kx.mono (us := [20, 71, 72, 60, 61]) (pd_kq.kx (k70) f61) (by simp))) (pd_kx.mono (us := [20, 71, 72, 60, 61]) (pd_kq.kx (k79) f71) (by simp))) (by simp), f46, f47, f30, f31, v48, v32, (by rw [hgn, hpy]; exact pd_MO.ext mo86 (fun j9 hj9 => by by_cases e30 : j9 = 30; subst e30; rfl; by_cases e31 : j9 = 31; subst e31; rfl; by_cases e41 : j9 = 41; subst e41; rfl; by_cases e42 : j9 = 42; subst e42; rfl; simp only [pd_fu, if_neg e30, if_neg e31, if_neg e41, if_neg e42]) (rfl)), f50⟩) (by decide) (by decide) d_p15m38_119
        · -- not taken: 108
          refine lv_lconst (v := 1) hx hb d_p15m38_108 (by decide) ?_
          refine lv_goto (tgt := 114) hx hb d_p15m38_109 (by decide) ?_
          refine lv_ladd hx hb d_p15m38_114 ?_
          refine pd_put (ty := .long) X w f71 hz_y rfl 36 (by decide) mT_1175 rfl rfl (by decide +kernel) rfl rfl (Nat.le_of_ble_eq_true rfl) d_p15m38_115 (fun H locs w => ?_)
          have w : pd_w G s H locs (pd_up h69 y (20, .inr (10, [.ref (ad 0), .ref (ad 1), .ref (ad 2), .int (iv 3), .int (iv 4), .int (iv 5), .ref (ad 6), .ref (ad 7), .ref (ad 8), .ref (ad 9), .ref (ad 10), .ref (ad 11), .int (iv 12), .ref (ad 13), .ref (ad 14), .ref (ad 15), .ref (ad 16), .ref (ad 17), .ref (ad 18), .ref (ad 19), .int (iv 20), .ref (ad 21), .ref (ad 22), .ref (ad 23), .ref (ad 24), .ref (ad 25), .ref (ad 26), .ref (ad 27), .ref (ad 28), .int (iv 29), .ref (ad 30), .ref (ad 31), .int (nI (an + 1)), .int (nI (gn + 1)), .int (nI (dn + (gr_jm n R k M u U cs 12).2)), .int v48, .long (tl + 1), .int (iv 37), .int (nI (gm_name cs (sA 1) (eA 1))), .int (iv 39), .int (nI (gm_name cs (sA 1) (eA 1) + 1)), .ref (ad 41), .ref (ad 42), .int v32]))) := w
          obtain ⟨h87, u90⟩ : ∃ z, z = pd_up h69 y (20, .inr (10, [.ref (ad 0), .ref (ad 1), .ref (ad 2), .int (iv 3), .int (iv 4), .int (iv 5), .ref (ad 6), .ref (ad 7), .ref (ad 8), .ref (ad 9), .ref (ad 10), .ref (ad 11), .int (iv 12), .ref (ad 13), .ref (ad 14), .ref (ad 15), .ref (ad 16), .ref (ad 17), .ref (ad 18), .ref (ad 19), .int (iv 20), .ref (ad 21), .ref (ad 22), .ref (ad 23), .ref (ad 24), .ref (ad 25), .ref (ad 26), .ref (ad 27), .ref (ad 28), .int (iv 29), .ref (ad 30), .ref (ad 31), .int (nI (an + 1)), .int (nI (gn + 1)), .int (nI (dn + (gr_jm n R k M u U cs 12).2)), .int v48, .long (tl + 1), .int (iv 37), .int (nI (gm_name cs (sA 1) (eA 1))), .int (iv 39), .int (nI (gm_name cs (sA 1) (eA 1) + 1)), .ref (ad 41), .ref (ad 42), .int v32])) := ⟨_, rfl⟩
          rw [← u90] at w
          have k88 : pd_kq y h69 h87 := by rw [u90]; exact pd_up_kq
          have f89 : h87 y = some (20, .inr (10, [.ref (ad 0), .ref (ad 1), .ref (ad 2), .int (iv 3), .int (iv 4), .int (iv 5), .ref (ad 6), .ref (ad 7), .ref (ad 8), .ref (ad 9), .ref (ad 10), .ref (ad 11), .int (iv 12), .ref (ad 13), .ref (ad 14), .ref (ad 15), .ref (ad 16), .ref (ad 17), .ref (ad 18), .ref (ad 19), .int (iv 20), .ref (ad 21), .ref (ad 22), .ref (ad 23), .ref (ad 24), .ref (ad 25), .ref (ad 26), .ref (ad 27), .ref (ad 28), .int (iv 29), .ref (ad 30), .ref (ad 31), .int (nI (an + 1)), .int (nI (gn + 1)), .int (nI (dn + (gr_jm n R k M u U cs 12).2)), .int v48, .long (tl + 1), .int (iv 37), .int (nI (gm_name cs (sA 1) (eA 1))), .int (iv 39), .int (nI (gm_name cs (sA 1) (eA 1) + 1)), .ref (ad 41), .ref (ad 42), .int v32])) := by rw [u90]; exact pd_up_s _ _ _
          have f91 := k88 _ _ (pd_ne f73 f71 (by simp)) f73
          have f92 := k88 _ _ (pd_ne f74 f71 (by simp)) f74
          have f93 := k88 _ _ (pd_ne f75 f71 (by simp)) f75
          have f94 := k88 _ _ (pd_ne f76 f71 (by simp)) f76
          refine lv_iload_n hx hb d_p15m38_118 rfl (lv_at hl 0 rfl) ?_
          have mo95 : pd_MO G h87 y ad (pd_fu (pd_fu (pd_fu (pd_fu fv 30 f46) 31 f47) 41 f30) 42 f31) (pd_fu (pd_fu (pd_fu (pd_fu (pd_fu (pd_fu (pd_fu iv 34 (nI (dn + (gr_jm n R k M u U cs 12).2))) 35 v48) 38 (nI (gm_name cs (sA 1) (eA 1)))) 40 (nI (gm_name cs (sA 1) (eA 1) + 1))) 43 v32) 32 (nI (an + 1))) 33 (nI (gn + 1))) (tl + 1) := pd_MO.of (ts := [20]) mo53 (pd_kx.tr (pd_kx.tr (pd_kq.kx (k60) hy54) (pd_kq.kx (k70) f61)) (pd_kq.kx (k88) f71)) f89 (fun j hj => Or.inr ⟨fun z => by first | (simp at z; done) | (simp at z; omega), rfl⟩)
          have hgn : gr_gn gn (gr_jm n R k M u U cs 12).1 = gn + 1 := by unfold gr_gn; rw [if_neg q67]
          have hpy : gr_pay tl (gr_jm n R k M u U cs 12).1 = tl + 1 := by unfold gr_pay; rw [if_neg q67, if_neg q77]
          exact pd_iret (v := ((gr_jm n R k M u U cs 12).1)) X w (Or.inr ⟨⟨hmem, hc2⟩, rfl, pd_kx.mono (us := [20, 60, 61, 71, 72]) (pd_kx.tr (pd_kx.tr (pd_kx.tr (pd_kx.tr (pd_kx.mono (us := [20, 71, 72, 60, 61]) (pd_kx.tr (pd_kx.mono (us := [20, 71, 72]) (k7) (by simp)) (k29)) (by simp)) (pd_kx.mono (us := [20, 71, 72, 60, 61]) (k45) (by simp))) (pd_kx.mono (us := [20, 71, 72, 60, 61]) (pd_kq.kx (k60) hy54) (by simp))) (pd_kx.mono (us := [20, 71, 72, 60, 61]) (pd_kq.kx (k70) f61) (by simp))) (pd_kx.mono (us := [20, 71, 72, 60, 61]) (pd_kq.kx (k88) f71) (by simp))) (by simp), f46, f47, f30, f31, v48, v32, (by rw [hgn, hpy]; exact pd_MO.ext mo95 (fun j9 hj9 => by by_cases e30 : j9 = 30; subst e30; rfl; by_cases e31 : j9 = 31; subst e31; rfl; by_cases e41 : j9 = 41; subst e41; rfl; by_cases e42 : j9 = 42; subst e42; rfl; simp only [pd_fu, if_neg e30, if_neg e31, if_neg e41, if_neg e42]) (rfl)), f50⟩) (by decide) (by decide) d_p15m38_119
    · -- not taken: 47
      refine lv_goto (tgt := 58) hx hb d_p15m38_47 (by decide) ?_
      refine lv_iconst (v := -1) hx hb d_p15m38_58 (by decide) ?_
      exact pd_iret (v := (-1)) X w (Or.inl ⟨fun z => (by have z1 := z.2; rw [← e23, q24] at z1; cases z1), rfl, pd_kx.mono (us := [20, 60, 61, 71, 72]) (k7) (by simp), f8⟩) (by decide) (by decide) d_p15m38_59
