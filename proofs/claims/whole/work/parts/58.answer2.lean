theorem gr_decl_sh {M : Nat → pd_mr} {k j b : Nat} {cs ds : List Nat} (h : gr_decl M k j cs ds = some b) : (M b).2.2.1 = ds := by
  have := List.find?_some h
  exact of_decide_eq_true (Bool.and_eq_true_iff.mp this).2
theorem gr_dif_sh {M : Nat → pd_mr} {k b : Nat} {fc cs ds : List Nat} (h : gr_dif M k fc cs ds = some b) : (M b).2.2.1 = ds := by
  obtain ⟨j, _, hj⟩ := List.exists_of_findSome?_eq_some h
  exact gr_decl_sh hj
theorem gr_f1_sh {R : Nat → pd_cr} {M : Nat → pd_mr} {k : Nat} {cs ds : List Nat} : ∀ {f : Nat} {o : Option Nat} {b : Nat}, gr_f1 R M k cs ds f o = some b → (M b).2.2.1 = ds
  | 0, _, _, h => by rw [gr_f1] at h; cases h
  | f + 1, none, _, h => by rw [gr_f1] at h; cases h
  | f + 1, some i, _, h => by
    rw [gr_f1] at h
    split at h
    · rename_i z
      exact gr_decl_sh (z.trans h)
    · exact gr_f1_sh h
theorem gr_f2_sh {R : Nat → pd_cr} {M : Nat → pd_mr} {k : Nat} {cs ds : List Nat} : ∀ {f : Nat} {o : Option Nat} {b : Nat}, gr_f2 R M k cs ds f o = some b → (M b).2.2.1 = ds
  | 0, _, _, h => by rw [gr_f2] at h; cases h
  | f + 1, none, _, h => by rw [gr_f2] at h; cases h
  | f + 1, some i, _, h => by
    rw [gr_f2] at h
    split at h
    · rename_i z
      exact gr_dif_sh (z.trans h)
    · exact gr_f2_sh h
theorem gr_ff_sh {R : Nat → pd_cr} {M : Nat → pd_mr} {k : Nat} {cs ds : List Nat} : ∀ {f : Nat} {o : Option Nat} {b : Nat}, gr_ff R M k cs ds f o = some b → (M b).2.2.1 = ds
  | 0, _, _, h => by rw [gr_ff] at h; cases h
  | f + 1, none, _, h => by rw [gr_ff] at h; cases h
  | f + 1, some i, _, h => by
    rw [gr_ff] at h
    split at h
    · rename_i z
      exact gr_decl_sh (z.trans h)
    · split at h
      · rename_i z
        exact gr_dif_sh (z.trans h)
      · exact gr_ff_sh h
theorem gr_fnd_sh {R : Nat → pd_cr} {k : Nat} {M : Nat → pd_mr} {cs : List Nat} {v j b : Nat} (h : gr_fnd R k M cs v j = some b) : (M b).2.2.1 = gr_w cs 2 := by
  unfold gr_fnd at h
  split at h
  · unfold gr_meth at h
    cases e : gr_f1 R M k (gr_ad (gr_w cs 1)) (gr_w cs 2) 14 (some j) with
    | some y => rw [e] at h; cases h; exact gr_f1_sh e
    | none => rw [e] at h; exact gr_f2_sh h
  · exact gr_ff_sh h
abbrev y_Mod_answerM4 : MethodName := ⟨"PolicyDeskModel", "answer", "(IZ)I"⟩
theorem ok_Mod_answerM4 : pd_ok y_Mod_answerM4 prog_15_method_39_code 6 (some .int) 2 := ⟨mT_1396, mT_21, by decide, by decide +kernel⟩
abbrev rm_Mod_answerM4 : Room := { frames := 3, cells := 0, slots := 0, locals := 77 }
set_option maxHeartbeats 4000000 in
set_option maxRecDepth 100000 in
theorem c_Mod_answerM4 (l : Launch) (G : pd_G) (h : pd_H) {y : Nat} {ad : Nat → Nat} {fv : Nat → Nat → Int32} {iv : Nat → Int32} {tl : Int64} {cs : List Nat} {n : Nat} {R : Nat → pd_cr} {k : Nat} {M : Nat → pd_mr} {u : Nat} {U : Nat → pd_rr} {nw dn : Nat} {sA eA : Nat → Nat} {ne tf : Nat} (hMO : pd_MO G h y ad fv iv tl) (hL : gm_L fv iv cs) (hC : gm_C fv iv n R) (hM : gm_M fv iv n k M) (hU : gm_U fv iv u U) (hK : gm_K n R) (hB : gm_B n R) (hV : gm_V k u U) (hW : gm_W fv cs nw sA eA) (hiv34 : iv 34 = nI dn) (hnw : 3 ≤ nw) (hiv38 : iv 38 = nI ne) (hiv40 : iv 40 = nI tf) (hbd : tx_sub cs (sA 1) ne = gr_bd (gr_w cs 1)) (had : tx_sub cs tf (eA 1) = gr_ad (gr_w cs 1)) (hw2 : tx_sub cs (sA 2) (eA 2) = gr_w cs 2) (hism : gr_ism (gr_w cs 2) = false) (hne : sA 1 ≤ ne ∧ ne ≤ eA 1) (htf : tf ≤ eA 1) : pd_M l y_Mod_answerM4 prog_15_method_39_code 6 (some .int) rm_Mod_answerM4 G h [.ref y, .int (nI 4), .int (nI 1)] Value.int (fun r h1 => r = (gr_jm n R k M u U cs 11).1 ∧ pd_kx [20, 71, 72] h h1 ∧ ∃ fo1 fo2 v43, pd_MO G h1 y ad (pd_fu (pd_fu fv 41 fo1) 42 fo2) (pd_fu (pd_fu iv 34 (nI (dn + (gr_jm n R k M u U cs 11).2))) 43 v43) tl) := by
  refine pd_M.of (by decide) (Nat.le_of_ble_eq_true rfl) ?_
  intro p e s m below meth c X hmn w ls hl
  have hx := X.1
  have hb := X.2.1
  have hl : lv_has ls 6 [(0, .ref y), (1, .int (nI 4)), (2, .int (nI 1))] := hl
  have hz_y := hMO.2.1
  have hy0 : h y = some (20, .inr (10, [.ref (ad 0), .ref (ad 1), .ref (ad 2), .int (iv 3), .int (iv 4), .int (iv 5), .ref (ad 6), .ref (ad 7), .ref (ad 8), .ref (ad 9), .ref (ad 10), .ref (ad 11), .int (iv 12), .ref (ad 13), .ref (ad 14), .ref (ad 15), .ref (ad 16), .ref (ad 17), .ref (ad 18), .ref (ad 19), .int (iv 20), .ref (ad 21), .ref (ad 22), .ref (ad 23), .ref (ad 24), .ref (ad 25), .ref (ad 26), .ref (ad 27), .ref (ad 28), .int (iv 29), .ref (ad 30), .ref (ad 31), .int (iv 32), .int (iv 33), .int (iv 34), .int (iv 35), .long tl, .int (iv 37), .int (iv 38), .int (iv 39), .int (iv 40), .ref (ad 41), .ref (ad 42), .int (iv 43)])) := hMO.1
  have ha1 : h (ad 1) = some (31, .inl (.int, 40, .inl (fv 1))) := (hMO.2.2 1 (by decide)).1
  have ha2 : h (ad 2) = some (32, .inl (.int, 40, .inl (fv 2))) := (hMO.2.2 2 (by decide)).1
  have ha11 : h (ad 11) = some (41, .inl (.boolean, 14, .inl (fv 11))) := (hMO.2.2 11 (by decide)).1
  have ha13 : h (ad 13) = some (43, .inl (.int, 24, .inl (fv 13))) := (hMO.2.2 13 (by decide)).1
  have ha14 : h (ad 14) = some (44, .inl (.int, 24, .inl (fv 14))) := (hMO.2.2 14 (by decide)).1
  have ha21 : h (ad 21) = some (51, .inl (.int, 24, .inl (fv 21))) := (hMO.2.2 21 (by decide)).1
  have ha25 : h (ad 25) = some (55, .inl (.int, 24, .inl (fv 25))) := (hMO.2.2 25 (by decide)).1
  have ha28 : h (ad 28) = some (58, .inl (.int, 24, .inl (fv 28))) := (hMO.2.2 28 (by decide)).1
  have ha41 : h (ad 41) = some (71, .inl (.int, 16, .inl (fv 41))) := (hMO.2.2 41 (by decide)).1
  have ha42 : h (ad 42) = some (72, .inl (.int, 32, .inl (fv 42))) := (hMO.2.2 42 (by decide)).1
  obtain ⟨hiv3, hln, hl60, hlc⟩ := id hL
  obtain ⟨hiv12, hn2, hn14, hCc⟩ := id hC
  obtain ⟨hiv20, hk24, hMm⟩ := id hM
  obtain ⟨hiv29, hu24, hUu⟩ := id hU
  have hw31 := hW.1
  have hwl1 := (hW.2 1 (by omega)).2.2
  have hwl2 := (hW.2 2 (by omega)).2.2
  refine lv_aload_n hx hb d_p15m39_0 rfl (lv_at hl 0 rfl) ?_
  refine lv_aload_n hx hb d_p15m39_1 rfl (lv_at hl 0 rfl) ?_
  refine pd_get X w hy0 rfl 1 (by decide) mT_1140 rfl rfl d_p15m39_2 ?_
  refine lv_iconst (v := nI 1) hx hb d_p15m39_5 (by decide) ?_
  refine pd_iald X w ha1 (by omega) (by omega) d_p15m39_6 ?_
  refine pd_top (v' := .int (nI (sA 1))) (congrArg Value.int (hW.2 1 (by omega)).1) ?_
  refine lv_iload_n hx hb d_p15m39_7 rfl (lv_at hl 2 rfl) ?_
  refine pd_zeq (tgt := 18) hx hb d_p15m39_8 (by decide) (by decide) (fun q => absurd q (by decide)) (fun _ => ?_)
  refine lv_aload_n hx hb d_p15m39_11 rfl (lv_at hl 0 rfl) ?_
  refine pd_get X w hy0 rfl 38 (by decide) mT_1177 rfl rfl d_p15m39_12 ?_
  refine pd_top (v' := .int (nI ne)) (congrArg Value.int hiv38) ?_
  refine lv_goto (tgt := 24) hx hb d_p15m39_15 (by decide) ?_
  refine pd_cV (a := y) (As := [.int (nI (sA 1)), .int (nI ne)]) (rest := []) X w hy0 rfl (c_Mod_find l G h (ad := ad) (fv := fv) (iv := iv) (tl := tl) hMO hL hC (by omega) (by omega)) ok_Mod_find ⟨mT_1326, sT_21⟩ mT_1324 ⟨by decide, by decide⟩ rfl hl.1 rfl (Nat.le_of_ble_eq_true rfl) d_p15m39_24 ⟨by decide, by decide⟩ (fun r2 h3 H locs hp4 w => ?_)
  refine W.widen (k := 0) (n := 0) (by decide) (by decide) ?_
  obtain ⟨e5, rfl⟩ := hp4
  refine lv_istore_n (lv' := [(3, .int (pd_m r2)), (0, .ref y), (1, .int (nI 4)), (2, .int (nI 1))]) hx hb d_p15m39_27 rfl hl (by decide) rfl (fun ls hl => ?_)
  refine lv_iconst (v := -1) hx hb d_p15m39_28 (by decide) ?_
  refine lv_istore (lv' := [(4, .int (-1)), (3, .int (pd_m r2)), (0, .ref y), (1, .int (nI 4)), (2, .int (nI 1))]) hx hb d_p15m39_29 hl (by decide) rfl (fun ls hl => ?_)
  refine lv_iload_n hx hb d_p15m39_31 rfl (lv_at hl 1 rfl) ?_
  refine pd_mge (tgt := 38) hx hb d_p15m39_32 (by decide) (fun x hx => by have z := gr_fi_lt (e5.symm.trans hx); omega) (fun q6 => ?_) (fun j7 q6 => ?_)
  · -- none: 35
    rw [q6] at e5
    rw [q6] at hl
    have hl : lv_has ls 6 [(4, .int (-1)), (3, .int (-1)), (0, .ref y), (1, .int (nI 4)), (2, .int (nI 1))] := hl
    refine lv_bipush (v := -2) hx hb d_p15m39_35 (by decide) ?_
    have hg : gr_jm n R k M u U cs 11 = (-2, 0) := by unfold gr_jm; rw [← hbd]; simp only [e5.symm]
    exact pd_iret (v := (-2)) X w ⟨by rw [hg], pd_kx.rf, fv 41, fv 42, (iv 43), (by rw [hg]; exact pd_MO.ext hMO (fun j9 hj9 => by by_cases e9 : j9 = 42; subst e9; rfl; by_cases e8 : j9 = 41; subst e8; rfl; simp only [pd_fu, if_neg e9, if_neg e8]) (by show pd_mv ad (pd_fu (pd_fu iv 34 (nI dn)) 43 _) tl = _; rw [pd_fu_id (f := iv) (n := 34) hiv34] <;> rfl))⟩ (by decide) (by decide) d_p15m39_37
  · -- some: 38
    rw [q6] at e5
    rw [q6] at hl
    have hl : lv_has ls 6 [(4, .int (-1)), (3, .int (nI j7)), (0, .ref y), (1, .int (nI 4)), (2, .int (nI 1))] := hl
    have j7lt := gr_fi_lt e5.symm
    refine lv_iload_n hx hb d_p15m39_38 rfl (lv_at hl 4 rfl) ?_
    refine pd_zeq (tgt := 82) hx hb d_p15m39_39 (by decide) (by decide) (fun q => absurd q (by decide)) (fun _ => ?_)
    refine lv_aload_n hx hb d_p15m39_42 rfl (lv_at hl 2 rfl) ?_
    refine lv_iload_n hx hb d_p15m39_43 rfl (lv_at hl 1 rfl) ?_
    refine lv_aload_n hx hb d_p15m39_44 rfl (lv_at hl 2 rfl) ?_
    refine pd_get X w hy0 rfl 2 (by decide) mT_1141 rfl rfl d_p15m39_45 ?_
    refine lv_iconst (v := nI 1) hx hb d_p15m39_48 (by decide) ?_
    refine pd_iald X w ha2 (by omega) (by omega) d_p15m39_49 ?_
    refine pd_top (v' := .int (nI (eA 1))) (congrArg Value.int (hW.2 1 (by omega)).2.1) ?_
    refine lv_iconst (v := nI 2) hx hb d_p15m39_50 (by decide) ?_
    refine lv_iload_n hx hb d_p15m39_51 rfl (lv_at hl 3 rfl) ?_
    refine lv_iconst (v := nI 5) hx hb d_p15m39_52 (by decide) ?_
    refine pd_jne (tgt := 60) hx hb d_p15m39_53 (by decide) (by decide) (by decide) (fun _ => ?_) (fun q => absurd q (by decide))
    refine lv_iconst (v := nI 0) hx hb d_p15m39_60 (by decide) ?_
    refine pd_cV (a := y) (As := [.int (nI j7), .int (nI (eA 1)), .int (nI 2), .int (nI 0)]) (rest := []) X w hy0 rfl (c_Mod_foundF l G h (n := n) (R := R) (cs := cs) (k := k) (M := M) (tf := tf) (nw := nw) (sA := sA) (eA := eA) (ad := ad) (fv := fv) (iv := iv) (tl := tl) hMO hC hL hM hK (by omega) hiv40 (by omega) (by omega) hW (by omega) (by rw [hw2]; exact hism)) ok_Mod_foundF ⟨mT_1399, sT_37⟩ mT_1397 ⟨by decide, by decide⟩ rfl hl.1 rfl (Nat.le_of_ble_eq_true rfl) d_p15m39_61 ⟨by decide, by decide⟩ (fun r10 h11 H locs hp12 w => ?_)
    refine W.widen (k := 0) (n := 0) (by decide) (by decide) ?_
    obtain ⟨e13, k14, f15, f16, v17, f18⟩ := hp12
    have f19 := k14 _ _ ha1 (show (31 : Nat) ∉ [20, 71, 72] by decide)
    have f20 := k14 _ _ ha2 (show (32 : Nat) ∉ [20, 71, 72] by decide)
    have f21 := k14 _ _ ha11 (show (41 : Nat) ∉ [20, 71, 72] by decide)
    have f22 := k14 _ _ ha13 (show (43 : Nat) ∉ [20, 71, 72] by decide)
    have f23 := k14 _ _ ha14 (show (44 : Nat) ∉ [20, 71, 72] by decide)
    have f24 := k14 _ _ ha21 (show (51 : Nat) ∉ [20, 71, 72] by decide)
    have f25 := k14 _ _ ha25 (show (55 : Nat) ∉ [20, 71, 72] by decide)
    have f26 := k14 _ _ ha28 (show (58 : Nat) ∉ [20, 71, 72] by decide)
    have hy27 : h11 y = some (20, .inr (10, [.ref (ad 0), .ref (ad 1), .ref (ad 2), .int (iv 3), .int (iv 4), .int (iv 5), .ref (ad 6), .ref (ad 7), .ref (ad 8), .ref (ad 9), .ref (ad 10), .ref (ad 11), .int (iv 12), .ref (ad 13), .ref (ad 14), .ref (ad 15), .ref (ad 16), .ref (ad 17), .ref (ad 18), .ref (ad 19), .int (iv 20), .ref (ad 21), .ref (ad 22), .ref (ad 23), .ref (ad 24), .ref (ad 25), .ref (ad 26), .ref (ad 27), .ref (ad 28), .int (iv 29), .ref (ad 30), .ref (ad 31), .int (iv 32), .int (iv 33), .int (iv 34), .int (iv 35), .long tl, .int (iv 37), .int (iv 38), .int (iv 39), .int (iv 40), .ref (ad 41), .ref (ad 42), .int v17])) := f18.1
    have ha28 : h11 (ad 1) = some (31, .inl (.int, 40, .inl (fv 1))) := (f18.2.2 1 (by decide)).1
    have ha29 : h11 (ad 2) = some (32, .inl (.int, 40, .inl (fv 2))) := (f18.2.2 2 (by decide)).1
    have ha30 : h11 (ad 11) = some (41, .inl (.boolean, 14, .inl (fv 11))) := (f18.2.2 11 (by decide)).1
    have ha31 : h11 (ad 13) = some (43, .inl (.int, 24, .inl (fv 13))) := (f18.2.2 13 (by decide)).1
    have ha32 : h11 (ad 14) = some (44, .inl (.int, 24, .inl (fv 14))) := (f18.2.2 14 (by decide)).1
    have ha33 : h11 (ad 21) = some (51, .inl (.int, 24, .inl (fv 21))) := (f18.2.2 21 (by decide)).1
    have ha34 : h11 (ad 25) = some (55, .inl (.int, 24, .inl (fv 25))) := (f18.2.2 25 (by decide)).1
    have ha35 : h11 (ad 28) = some (58, .inl (.int, 24, .inl (fv 28))) := (f18.2.2 28 (by decide)).1
    have ha36 : h11 (ad 41) = some (71, .inl (.int, 16, .inl (f15))) := (f18.2.2 41 (by decide)).1
    have ha37 : h11 (ad 42) = some (72, .inl (.int, 32, .inl (f16))) := (f18.2.2 42 (by decide)).1
    have e38 : r10 = gr_fnd R k M cs 11 j7 := by unfold gr_fnd; rw [if_neg (by decide), ← had, ← hw2, ← gm_fld_ff]; exact e13
    refine lv_istore (lv' := [(4, .int (pd_m r10)), (3, .int (nI j7)), (0, .ref y), (1, .int (nI 4)), (2, .int (nI 1))]) hx hb d_p15m39_64 hl (by decide) rfl (fun ls hl => ?_)
    refine lv_iload hx hb d_p15m39_66 (lv_at hl 0 rfl) ?_
    refine pd_mge (tgt := 74) hx hb d_p15m39_68 (by decide) (fun x hx => by have z := gr_fnd_lt (e38.symm.trans hx); omega) (fun q39 => ?_) (fun j40 q39 => ?_)
    · -- none: 71
      rw [q39] at e38
      rw [q39] at hl
      have hl : lv_has ls 6 [(4, .int (-1)), (3, .int (nI j7)), (0, .ref y), (1, .int (nI 4)), (2, .int (nI 1))] := hl
      refine lv_bipush (v := -2) hx hb d_p15m39_71 (by decide) ?_
      have hg : gr_jm n R k M u U cs 11 = (-2, 0) := by unfold gr_jm; rw [← hbd]; simp only [e5.symm, e38.symm]
      exact pd_iret (v := (-2)) X w ⟨by rw [hg], k14, f15, f16, v17, (by rw [hg]; exact pd_MO.ext f18 (fun j9 hj9 => by by_cases e9 : j9 = 42; subst e9; rfl; by_cases e8 : j9 = 41; subst e8; rfl; simp only [pd_fu, if_neg e9, if_neg e8]) (by show pd_mv ad (pd_fu (pd_fu iv 34 (nI dn)) 43 _) tl = _; rw [pd_fu_id (f := iv) (n := 34) hiv34] <;> rfl))⟩ (by decide) (by decide) d_p15m39_73
    · -- some: 74
      rw [q39] at e38
      rw [q39] at hl
      have hl : lv_has ls 6 [(4, .int (nI j40)), (3, .int (nI j7)), (0, .ref y), (1, .int (nI 4)), (2, .int (nI 1))] := hl
      have j40lt := gr_fnd_lt e38.symm
      have hsh : (M j40).2.2.1 = gr_w cs 2 := gr_fnd_sh e38.symm
      have hism2 : gr_ism (M j40).2.2.1 = false := by rw [hsh]; exact hism
      have hon := (hMm j40 (by omega)).2.1
      refine lv_aload_n hx hb d_p15m39_74 rfl (lv_at hl 2 rfl) ?_
      refine pd_get X w hy27 rfl 13 (by decide) mT_1152 rfl rfl d_p15m39_75 ?_
      refine lv_iload hx hb d_p15m39_78 (lv_at hl 0 rfl) ?_
      refine pd_iald X w ha31 (by omega) (by omega) d_p15m39_80 ?_
      refine pd_top (v' := .int (nI ((M j40).1))) (congrArg Value.int (hMm j40 (by omega)).1) ?_
      have hon := (hMm j40 (by omega)).2.1
      refine lv_istore_n (lv' := [(3, .int (nI ((M j40).1))), (4, .int (nI j40)), (0, .ref y), (1, .int (nI 4)), (2, .int (nI 1))]) hx hb d_p15m39_81 rfl hl (by decide) rfl (fun ls hl => ?_)
      refine lv_iload_n hx hb d_p15m39_82 rfl (lv_at hl 3 rfl) ?_
      refine lv_iconst (v := nI 1) hx hb d_p15m39_83 (by decide) ?_
      refine pd_jne (tgt := 99) hx hb d_p15m39_84 (by decide) (by decide) (by decide) (fun _ => ?_) (fun q => absurd q (by decide))
      refine lv_iload_n hx hb d_p15m39_99 rfl (lv_at hl 3 rfl) ?_
      refine lv_iconst (v := nI 3) hx hb d_p15m39_100 (by decide) ?_
      refine pd_jne (tgt := 125) hx hb d_p15m39_101 (by decide) (by decide) (by decide) (fun _ => ?_) (fun q => absurd q (by decide))
      refine lv_iload_n hx hb d_p15m39_125 rfl (lv_at hl 3 rfl) ?_
      refine lv_iconst (v := nI 5) hx hb d_p15m39_126 (by decide) ?_
      refine pd_jne (tgt := 142) hx hb d_p15m39_127 (by decide) (by decide) (by decide) (fun _ => ?_) (fun q => absurd q (by decide))
      refine lv_iconst (v := -1) hx hb d_p15m39_142 (by decide) ?_
      refine lv_istore (lv' := [(5, .int (-1)), (3, .int (nI ((M j40).1))), (4, .int (nI j40)), (0, .ref y), (1, .int (nI 4)), (2, .int (nI 1))]) hx hb d_p15m39_143 hl (by decide) rfl (fun ls hl => ?_)
      refine lv_iload hx hb d_p15m39_145 (lv_at hl 0 rfl) ?_
      refine lv_if_lt (tgt := 172) hx hb d_p15m39_147 (by decide) (fun _ => ?_) (fun q => absurd (by decide) q)
      refine lv_aload_n hx hb d_p15m39_172 rfl (lv_at hl 3 rfl) ?_
      refine lv_iconst (v := nI 0) hx hb d_p15m39_173 (by decide) ?_
      refine lv_iconst (v := nI 1) hx hb d_p15m39_174 (by decide) ?_
      refine lv_iload_n hx hb d_p15m39_175 rfl (lv_at hl 1 rfl) ?_
      refine lv_iload hx hb d_p15m39_176 (lv_at hl 2 rfl) ?_
      refine pd_cV (a := y) (As := [.int (nI 0), .int (nI 1), .int (nI ((M j40).1)), .int (nI j40)]) (rest := []) X w hy27 rfl (c_Mod_best l G h11 (n := n) (R := R) (k := k) (M := M) (u := u) (U := U) (w1 := 0) (w2 := 1) (c9 := (M j40).1) (o := some j40) (ad := ad) (fv := pd_fu (pd_fu fv 41 f15) 42 f16) (iv := pd_fu iv 43 v17) (tl := tl) f18 hC hM hU (by omega) (by omega) (by omega) (fun t ht => by cases ht; omega)) ok_Mod_best ⟨mT_1415, sT_41⟩ mT_1413 ⟨by decide, by decide⟩ rfl hl.1 rfl (Nat.le_of_ble_eq_true rfl) d_p15m39_178 ⟨by decide, by decide⟩ (fun r45 h46 H locs hp47 w => ?_)
      refine W.widen (k := 0) (n := 0) (by decide) (by decide) ?_
      obtain ⟨e48, rfl⟩ := hp47
      refine lv_istore (lv' := [(5, .int (pd_m r45)), (3, .int (nI ((M j40).1))), (4, .int (nI j40)), (0, .ref y), (1, .int (nI 4)), (2, .int (nI 1))]) hx hb d_p15m39_181 hl (by decide) rfl (fun ls hl => ?_)
      refine lv_iload hx hb d_p15m39_183 (lv_at hl 0 rfl) ?_
      refine pd_mge (tgt := 191) hx hb d_p15m39_185 (by decide) (fun x hx => by have z := gr_bst_lt (e48.symm.trans hx); omega) (fun q49 => ?_) (fun j50 q49 => ?_)
      · -- none: 188
        rw [q49] at e48
        rw [q49] at hl
        have hl : lv_has ls 6 [(5, .int (-1)), (3, .int (nI ((M j40).1))), (4, .int (nI j40)), (0, .ref y), (1, .int (nI 4)), (2, .int (nI 1))] := hl
        refine lv_bipush (v := -7) hx hb d_p15m39_188 (by decide) ?_
        have hsm : gr_shm R M u U 11 j40 = none := by unfold gr_shm; rw [if_neg (by decide)]
        have hwg : gr_wg R M u U ((M j40).1) (some j40) = (-7, 0) := by unfold gr_wg; simp only [e48.symm]
        have hg : gr_jm n R k M u U cs 11 = (-7, 0) := by unfold gr_jm; rw [← hbd]; simp only [e5.symm, e38.symm, hsm]; exact hwg
        exact pd_iret (v := (-7)) X w ⟨by rw [hg], k14, f15, f16, v17, (by rw [hg]; exact pd_MO.ext f18 (fun j9 hj9 => by by_cases e9 : j9 = 42; subst e9; rfl; by_cases e8 : j9 = 41; subst e8; rfl; simp only [pd_fu, if_neg e9, if_neg e8]) (by show pd_mv ad (pd_fu (pd_fu iv 34 (nI dn)) 43 _) tl = _; rw [pd_fu_id (f := iv) (n := 34) hiv34] <;> rfl))⟩ (by decide) (by decide) d_p15m39_190
      · -- some: 191
        rw [q49] at e48
        rw [q49] at hl
        have hl : lv_has ls 6 [(5, .int (nI j50)), (3, .int (nI ((M j40).1))), (4, .int (nI j40)), (0, .ref y), (1, .int (nI 4)), (2, .int (nI 1))] := hl
        have j50lt := gr_bst_lt e48.symm
        refine lv_aload_n hx hb d_p15m39_191 rfl (lv_at hl 3 rfl) ?_
        refine lv_dup hx hb d_p15m39_192 rfl ?_
        refine pd_get X w hy27 rfl 34 (by decide) mT_1173 rfl rfl d_p15m39_193 ?_
        refine pd_top (v' := .int (nI dn)) (congrArg Value.int hiv34) ?_
        refine lv_iconst (v := nI 1) hx hb d_p15m39_196 (by decide) ?_
        refine pd_iadd hx hb d_p15m39_197 ?_
        refine pd_put (ty := .int) X w hy27 hz_y rfl 34 (by decide) mT_1173 rfl rfl (by decide +kernel) rfl rfl (Nat.le_of_ble_eq_true rfl) d_p15m39_198 (fun H locs w => ?_)
        have w : pd_w G s H locs (pd_up h11 y (20, .inr (10, [.ref (ad 0), .ref (ad 1), .ref (ad 2), .int (iv 3), .int (iv 4), .int (iv 5), .ref (ad 6), .ref (ad 7), .ref (ad 8), .ref (ad 9), .ref (ad 10), .ref (ad 11), .int (iv 12), .ref (ad 13), .ref (ad 14), .ref (ad 15), .ref (ad 16), .ref (ad 17), .ref (ad 18), .ref (ad 19), .int (iv 20), .ref (ad 21), .ref (ad 22), .ref (ad 23), .ref (ad 24), .ref (ad 25), .ref (ad 26), .ref (ad 27), .ref (ad 28), .int (iv 29), .ref (ad 30), .ref (ad 31), .int (iv 32), .int (iv 33), .int (nI (dn + 1)), .int (iv 35), .long tl, .int (iv 37), .int (iv 38), .int (iv 39), .int (iv 40), .ref (ad 41), .ref (ad 42), .int v17]))) := w
        obtain ⟨h51, u54⟩ : ∃ z, z = pd_up h11 y (20, .inr (10, [.ref (ad 0), .ref (ad 1), .ref (ad 2), .int (iv 3), .int (iv 4), .int (iv 5), .ref (ad 6), .ref (ad 7), .ref (ad 8), .ref (ad 9), .ref (ad 10), .ref (ad 11), .int (iv 12), .ref (ad 13), .ref (ad 14), .ref (ad 15), .ref (ad 16), .ref (ad 17), .ref (ad 18), .ref (ad 19), .int (iv 20), .ref (ad 21), .ref (ad 22), .ref (ad 23), .ref (ad 24), .ref (ad 25), .ref (ad 26), .ref (ad 27), .ref (ad 28), .int (iv 29), .ref (ad 30), .ref (ad 31), .int (iv 32), .int (iv 33), .int (nI (dn + 1)), .int (iv 35), .long tl, .int (iv 37), .int (iv 38), .int (iv 39), .int (iv 40), .ref (ad 41), .ref (ad 42), .int v17])) := ⟨_, rfl⟩
        rw [← u54] at w
        have k52 : pd_kq y h11 h51 := by rw [u54]; exact pd_up_kq
        have f53 : h51 y = some (20, .inr (10, [.ref (ad 0), .ref (ad 1), .ref (ad 2), .int (iv 3), .int (iv 4), .int (iv 5), .ref (ad 6), .ref (ad 7), .ref (ad 8), .ref (ad 9), .ref (ad 10), .ref (ad 11), .int (iv 12), .ref (ad 13), .ref (ad 14), .ref (ad 15), .ref (ad 16), .ref (ad 17), .ref (ad 18), .ref (ad 19), .int (iv 20), .ref (ad 21), .ref (ad 22), .ref (ad 23), .ref (ad 24), .ref (ad 25), .ref (ad 26), .ref (ad 27), .ref (ad 28), .int (iv 29), .ref (ad 30), .ref (ad 31), .int (iv 32), .int (iv 33), .int (nI (dn + 1)), .int (iv 35), .long tl, .int (iv 37), .int (iv 38), .int (iv 39), .int (iv 40), .ref (ad 41), .ref (ad 42), .int v17])) := by rw [u54]; exact pd_up_s _ _ _
        have f55 := k52 _ _ (pd_ne ha28 hy27 (by simp)) ha28
        have f56 := k52 _ _ (pd_ne ha29 hy27 (by simp)) ha29
        have f57 := k52 _ _ (pd_ne ha30 hy27 (by simp)) ha30
        have f58 := k52 _ _ (pd_ne ha31 hy27 (by simp)) ha31
        have f59 := k52 _ _ (pd_ne ha32 hy27 (by simp)) ha32
        have f60 := k52 _ _ (pd_ne ha33 hy27 (by simp)) ha33
        have f61 := k52 _ _ (pd_ne ha34 hy27 (by simp)) ha34
        have f62 := k52 _ _ (pd_ne ha35 hy27 (by simp)) ha35
        have f63 := k52 _ _ (pd_ne ha36 hy27 (by simp)) ha36
        have f64 := k52 _ _ (pd_ne ha37 hy27 (by simp)) ha37
        refine lv_aload_n hx hb d_p15m39_201 rfl (lv_at hl 3 rfl) ?_
        refine pd_get X w f53 rfl 21 (by decide) mT_1160 rfl rfl d_p15m39_202 ?_
        refine lv_iload hx hb d_p15m39_205 (lv_at hl 0 rfl) ?_
        refine pd_iald X w f60 (by omega) (by omega) d_p15m39_207 ?_
        refine pd_top (v' := .int (nI ((U j50).1 - 4))) (congrArg Value.int (hUu j50 (by omega)).1) ?_
        have hv47 := (hUu j50 (by omega)).2.1
        refine lv_iconst (v := nI 1) hx hb d_p15m39_208 (by decide) ?_
        refine pd_jeq (tgt := 240) hx hb d_p15m39_209 (by decide) (by omega) (by omega) (fun q65 => ?_) (fun q65 => ?_)
        · -- taken: 240
          refine lv_bipush (v := -7) hx hb d_p15m39_240 (by decide) ?_
          have hsm : gr_shm R M u U 11 j40 = none := by unfold gr_shm; rw [if_neg (by decide)]
          have hwg : gr_wg R M u U ((M j40).1) (some j40) = (-7, 1) := by unfold gr_wg; simp only [e48.symm]; rw [if_pos (Or.inl (by omega))]
          have hg : gr_jm n R k M u U cs 11 = (-7, 1) := by unfold gr_jm; rw [← hbd]; simp only [e5.symm, e38.symm, hsm]; exact hwg
          have mo66 : pd_MO G h51 y ad (pd_fu (pd_fu fv 41 f15) 42 f16) (pd_fu (pd_fu iv 43 v17) 34 (nI (dn + 1))) tl := pd_MO.of (ts := [20]) f18 (pd_kq.kx (k52) hy27) f53 (fun j hj => Or.inr ⟨fun z => by first | (simp at z; done) | (simp at z; omega), rfl⟩)
          exact pd_iret (v := (-7)) X w ⟨by rw [hg], pd_kx.tr (k14) (pd_kx.mono (us := [20, 71, 72]) (pd_kq.kx (k52) hy27) (by simp)), f15, f16, v17, (by rw [hg]; exact pd_MO.ext mo66 (fun j9 hj9 => by by_cases e9 : j9 = 42; subst e9; rfl; by_cases e8 : j9 = 41; subst e8; rfl; simp only [pd_fu, if_neg e9, if_neg e8]) (rfl))⟩ (by decide) (by decide) d_p15m39_242
        · -- not taken: 212
          refine lv_iload_n hx hb d_p15m39_212 rfl (lv_at hl 4 rfl) ?_
          refine lv_iconst (v := nI 5) hx hb d_p15m39_213 (by decide) ?_
          refine pd_jne (tgt := 243) hx hb d_p15m39_214 (by decide) (by decide) (by decide) (fun _ => ?_) (fun q => absurd q (by decide))
          refine lv_aload_n hx hb d_p15m39_243 rfl (lv_at hl 3 rfl) ?_
          refine lv_iconst (v := nI 2) hx hb d_p15m39_244 (by decide) ?_
          refine lv_iconst (v := nI 2) hx hb d_p15m39_245 (by decide) ?_
          refine lv_iload_n hx hb d_p15m39_246 rfl (lv_at hl 1 rfl) ?_
          refine lv_iload hx hb d_p15m39_247 (lv_at hl 2 rfl) ?_
          have mo68 : pd_MO G h51 y ad (pd_fu (pd_fu fv 41 f15) 42 f16) (pd_fu (pd_fu iv 43 v17) 34 (nI (dn + 1))) tl := pd_MO.of (ts := [20]) f18 (pd_kq.kx (k52) hy27) f53 (fun j hj => Or.inr ⟨fun z => by first | (simp at z; done) | (simp at z; omega), rfl⟩)
          refine pd_cV (a := y) (As := [.int (nI 2), .int (nI 2), .int (nI ((M j40).1)), .int (nI j40)]) (rest := []) X w f53 rfl (c_Mod_best l G h51 (n := n) (R := R) (k := k) (M := M) (u := u) (U := U) (w1 := 2) (w2 := 2) (c9 := (M j40).1) (o := some j40) (ad := ad) (fv := pd_fu (pd_fu fv 41 f15) 42 f16) (iv := pd_fu (pd_fu iv 43 v17) 34 (nI (dn + 1))) (tl := tl) mo68 hC hM hU (by omega) (by omega) (by omega) (fun t ht => by cases ht; omega)) ok_Mod_best ⟨mT_1415, sT_41⟩ mT_1413 ⟨by decide, by decide⟩ rfl hl.1 rfl (Nat.le_of_ble_eq_true rfl) d_p15m39_249 ⟨by decide, by decide⟩ (fun r69 h70 H locs hp71 w => ?_)
          refine W.widen (k := 0) (n := 0) (by decide) (by decide) ?_
          obtain ⟨e72, rfl⟩ := hp71
          refine lv_istore (lv' := [(5, .int (pd_m r69)), (3, .int (nI ((M j40).1))), (4, .int (nI j40)), (0, .ref y), (1, .int (nI 4)), (2, .int (nI 1))]) hx hb d_p15m39_252 hl (by decide) rfl (fun ls hl => ?_)
          refine lv_iload hx hb d_p15m39_254 (lv_at hl 0 rfl) ?_
          refine pd_mge (tgt := 263) hx hb d_p15m39_256 (by decide) (fun x hx => by have z := gr_bst_lt (e72.symm.trans hx); omega) (fun q73 => ?_) (fun j74 q73 => ?_)
          · -- none: 259
            rw [q73] at e72
            rw [q73] at hl
            have hl : lv_has ls 6 [(5, .int (-1)), (3, .int (nI ((M j40).1))), (4, .int (nI j40)), (0, .ref y), (1, .int (nI 4)), (2, .int (nI 1))] := hl
            refine lv_iconst (v := nI 1) hx hb d_p15m39_259 (by decide) ?_
            refine lv_goto (tgt := 270) hx hb d_p15m39_260 (by decide) ?_
            have hsm : gr_shm R M u U 11 j40 = none := by unfold gr_shm; rw [if_neg (by decide)]
            have hwg : gr_wg R M u U ((M j40).1) (some j40) = (nI 1, 1) := by unfold gr_wg; simp only [e48.symm]; rw [if_neg (fun h9 => h9.elim (fun y => by omega) (fun y => by have y1 : (gr_ism (M j40).2.2.1 && _) = true := y.1; rw [hism2] at y1; cases y1))]; simp only [e72.symm]
            have hg : gr_jm n R k M u U cs 11 = (nI 1, 1) := by unfold gr_jm; rw [← hbd]; simp only [e5.symm, e38.symm, hsm]; exact hwg
            have mo75 : pd_MO G h51 y ad (pd_fu (pd_fu fv 41 f15) 42 f16) (pd_fu (pd_fu iv 43 v17) 34 (nI (dn + 1))) tl := pd_MO.of (ts := [20]) f18 (pd_kq.kx (k52) hy27) f53 (fun j hj => Or.inr ⟨fun z => by first | (simp at z; done) | (simp at z; omega), rfl⟩)
            exact pd_iret (v := (nI 1)) X w ⟨by rw [hg], pd_kx.tr (k14) (pd_kx.mono (us := [20, 71, 72]) (pd_kq.kx (k52) hy27) (by simp)), f15, f16, v17, (by rw [hg]; exact pd_MO.ext mo75 (fun j9 hj9 => by by_cases e9 : j9 = 42; subst e9; rfl; by_cases e8 : j9 = 41; subst e8; rfl; simp only [pd_fu, if_neg e9, if_neg e8]) (rfl))⟩ (by decide) (by decide) d_p15m39_270
          · -- some: 263
            rw [q73] at e72
            rw [q73] at hl
            have hl : lv_has ls 6 [(5, .int (nI j74)), (3, .int (nI ((M j40).1))), (4, .int (nI j40)), (0, .ref y), (1, .int (nI 4)), (2, .int (nI 1))] := hl
            have j74lt := gr_bst_lt e72.symm
            refine lv_aload_n hx hb d_p15m39_263 rfl (lv_at hl 3 rfl) ?_
            refine pd_get X w f53 rfl 28 (by decide) mT_1167 rfl rfl d_p15m39_264 ?_
            refine lv_iload hx hb d_p15m39_267 (lv_at hl 0 rfl) ?_
            refine pd_iald X w f62 (by omega) (by omega) d_p15m39_269 ?_
            refine pd_top (v' := .int (nI (gm_rn (U j74)))) (congrArg Value.int (hUu j74 (by omega)).2.2.2.2.2.2.2.2.2.1) ?_
            have hrn := (hUu j74 (by omega)).2.2.2.2.2.2.2.2.2.2
            have hsm : gr_shm R M u U 11 j40 = none := by unfold gr_shm; rw [if_neg (by decide)]
            have hwg : gr_wg R M u U ((M j40).1) (some j40) = (nI (gm_rn (U j74)), 1) := by unfold gr_wg; simp only [e48.symm]; rw [if_neg (fun h9 => h9.elim (fun y => by omega) (fun y => by have y1 : (gr_ism (M j40).2.2.1 && _) = true := y.1; rw [hism2] at y1; cases y1))]; simp only [e72.symm]; rw [gm_rn_c hV j74lt (by have z9 := gr_bst_v e72.symm; omega)]
            have hg : gr_jm n R k M u U cs 11 = (nI (gm_rn (U j74)), 1) := by unfold gr_jm; rw [← hbd]; simp only [e5.symm, e38.symm, hsm]; exact hwg
            have mo76 : pd_MO G h51 y ad (pd_fu (pd_fu fv 41 f15) 42 f16) (pd_fu (pd_fu iv 43 v17) 34 (nI (dn + 1))) tl := pd_MO.of (ts := [20]) f18 (pd_kq.kx (k52) hy27) f53 (fun j hj => Or.inr ⟨fun z => by first | (simp at z; done) | (simp at z; omega), rfl⟩)
            exact pd_iret (v := (nI (gm_rn (U j74)))) X w ⟨by rw [hg], pd_kx.tr (k14) (pd_kx.mono (us := [20, 71, 72]) (pd_kq.kx (k52) hy27) (by simp)), f15, f16, v17, (by rw [hg]; exact pd_MO.ext mo76 (fun j9 hj9 => by by_cases e9 : j9 = 42; subst e9; rfl; by_cases e8 : j9 = 41; subst e8; rfl; simp only [pd_fu, if_neg e9, if_neg e8]) (rfl))⟩ (by decide) (by decide) d_p15m39_270
abbrev y_Mod_answerM5 : MethodName := ⟨"PolicyDeskModel", "answer", "(IZ)I"⟩
theorem ok_Mod_answerM5 : pd_ok y_Mod_answerM5 prog_15_method_39_code 6 (some .int) 2 := ⟨mT_1396, mT_21, by decide, by decide +kernel⟩
abbrev rm_Mod_answerM5 : Room := { frames := 3, cells := 0, slots := 0, locals := 77 }
set_option maxHeartbeats 4000000 in
set_option maxRecDepth 100000 in
theorem c_Mod_answerM5 (l : Launch) (G : pd_G) (h : pd_H) {y : Nat} {ad : Nat → Nat} {fv : Nat → Nat → Int32} {iv : Nat → Int32} {tl : Int64} {cs : List Nat} {n : Nat} {R : Nat → pd_cr} {k : Nat} {M : Nat → pd_mr} {u : Nat} {U : Nat → pd_rr} {nw dn : Nat} {sA eA : Nat → Nat} {ne tf : Nat} (hMO : pd_MO G h y ad fv iv tl) (hL : gm_L fv iv cs) (hC : gm_C fv iv n R) (hM : gm_M fv iv n k M) (hU : gm_U fv iv u U) (hK : gm_K n R) (hB : gm_B n R) (hV : gm_V k u U) (hW : gm_W fv cs nw sA eA) (hiv34 : iv 34 = nI dn) (hnw : 3 ≤ nw) (hiv38 : iv 38 = nI ne) (hiv40 : iv 40 = nI tf) (hbd : tx_sub cs (sA 1) ne = gr_bd (gr_w cs 1)) (had : tx_sub cs tf (eA 1) = gr_ad (gr_w cs 1)) (hw2 : tx_sub cs (sA 2) (eA 2) = gr_w cs 2) (hism : gr_ism (gr_w cs 2) = true) (hne : sA 1 ≤ ne ∧ ne ≤ eA 1) (htf : tf ≤ eA 1) : pd_M l y_Mod_answerM5 prog_15_method_39_code 6 (some .int) rm_Mod_answerM5 G h [.ref y, .int (nI 5), .int (nI 1)] Value.int (fun r h1 => r = (gr_jm n R k M u U cs 12).1 ∧ pd_kx [20, 71, 72] h h1 ∧ ∃ fo1 fo2 v43, pd_MO G h1 y ad (pd_fu (pd_fu fv 41 fo1) 42 fo2) (pd_fu (pd_fu iv 34 (nI (dn + (gr_jm n R k M u U cs 12).2))) 43 v43) tl) := by
  refine pd_M.of (by decide) (Nat.le_of_ble_eq_true rfl) ?_
  intro p e s m below meth c X hmn w ls hl
  have hx := X.1
  have hb := X.2.1
  have hl : lv_has ls 6 [(0, .ref y), (1, .int (nI 5)), (2, .int (nI 1))] := hl
  have hz_y := hMO.2.1
  have hy0 : h y = some (20, .inr (10, [.ref (ad 0), .ref (ad 1), .ref (ad 2), .int (iv 3), .int (iv 4), .int (iv 5), .ref (ad 6), .ref (ad 7), .ref (ad 8), .ref (ad 9), .ref (ad 10), .ref (ad 11), .int (iv 12), .ref (ad 13), .ref (ad 14), .ref (ad 15), .ref (ad 16), .ref (ad 17), .ref (ad 18), .ref (ad 19), .int (iv 20), .ref (ad 21), .ref (ad 22), .ref (ad 23), .ref (ad 24), .ref (ad 25), .ref (ad 26), .ref (ad 27), .ref (ad 28), .int (iv 29), .ref (ad 30), .ref (ad 31), .int (iv 32), .int (iv 33), .int (iv 34), .int (iv 35), .long tl, .int (iv 37), .int (iv 38), .int (iv 39), .int (iv 40), .ref (ad 41), .ref (ad 42), .int (iv 43)])) := hMO.1
  have ha1 : h (ad 1) = some (31, .inl (.int, 40, .inl (fv 1))) := (hMO.2.2 1 (by decide)).1
  have ha2 : h (ad 2) = some (32, .inl (.int, 40, .inl (fv 2))) := (hMO.2.2 2 (by decide)).1
  have ha11 : h (ad 11) = some (41, .inl (.boolean, 14, .inl (fv 11))) := (hMO.2.2 11 (by decide)).1
  have ha13 : h (ad 13) = some (43, .inl (.int, 24, .inl (fv 13))) := (hMO.2.2 13 (by decide)).1
  have ha14 : h (ad 14) = some (44, .inl (.int, 24, .inl (fv 14))) := (hMO.2.2 14 (by decide)).1
  have ha21 : h (ad 21) = some (51, .inl (.int, 24, .inl (fv 21))) := (hMO.2.2 21 (by decide)).1
  have ha25 : h (ad 25) = some (55, .inl (.int, 24, .inl (fv 25))) := (hMO.2.2 25 (by decide)).1
  have ha28 : h (ad 28) = some (58, .inl (.int, 24, .inl (fv 28))) := (hMO.2.2 28 (by decide)).1
  have ha41 : h (ad 41) = some (71, .inl (.int, 16, .inl (fv 41))) := (hMO.2.2 41 (by decide)).1
  have ha42 : h (ad 42) = some (72, .inl (.int, 32, .inl (fv 42))) := (hMO.2.2 42 (by decide)).1
  obtain ⟨hiv3, hln, hl60, hlc⟩ := id hL
  obtain ⟨hiv12, hn2, hn14, hCc⟩ := id hC
  obtain ⟨hiv20, hk24, hMm⟩ := id hM
  obtain ⟨hiv29, hu24, hUu⟩ := id hU
  have hw31 := hW.1
  have hwl1 := (hW.2 1 (by omega)).2.2
  have hwl2 := (hW.2 2 (by omega)).2.2
  refine lv_aload_n hx hb d_p15m39_0 rfl (lv_at hl 0 rfl) ?_
  refine lv_aload_n hx hb d_p15m39_1 rfl (lv_at hl 0 rfl) ?_
  refine pd_get X w hy0 rfl 1 (by decide) mT_1140 rfl rfl d_p15m39_2 ?_
  refine lv_iconst (v := nI 1) hx hb d_p15m39_5 (by decide) ?_
  refine pd_iald X w ha1 (by omega) (by omega) d_p15m39_6 ?_
  refine pd_top (v' := .int (nI (sA 1))) (congrArg Value.int (hW.2 1 (by omega)).1) ?_
  refine lv_iload_n hx hb d_p15m39_7 rfl (lv_at hl 2 rfl) ?_
  refine pd_zeq (tgt := 18) hx hb d_p15m39_8 (by decide) (by decide) (fun q => absurd q (by decide)) (fun _ => ?_)
  refine lv_aload_n hx hb d_p15m39_11 rfl (lv_at hl 0 rfl) ?_
  refine pd_get X w hy0 rfl 38 (by decide) mT_1177 rfl rfl d_p15m39_12 ?_
  refine pd_top (v' := .int (nI ne)) (congrArg Value.int hiv38) ?_
  refine lv_goto (tgt := 24) hx hb d_p15m39_15 (by decide) ?_
  refine pd_cV (a := y) (As := [.int (nI (sA 1)), .int (nI ne)]) (rest := []) X w hy0 rfl (c_Mod_find l G h (ad := ad) (fv := fv) (iv := iv) (tl := tl) hMO hL hC (by omega) (by omega)) ok_Mod_find ⟨mT_1326, sT_21⟩ mT_1324 ⟨by decide, by decide⟩ rfl hl.1 rfl (Nat.le_of_ble_eq_true rfl) d_p15m39_24 ⟨by decide, by decide⟩ (fun r2 h3 H locs hp4 w => ?_)
  refine W.widen (k := 0) (n := 0) (by decide) (by decide) ?_
  obtain ⟨e5, rfl⟩ := hp4
  refine lv_istore_n (lv' := [(3, .int (pd_m r2)), (0, .ref y), (1, .int (nI 5)), (2, .int (nI 1))]) hx hb d_p15m39_27 rfl hl (by decide) rfl (fun ls hl => ?_)
  refine lv_iconst (v := -1) hx hb d_p15m39_28 (by decide) ?_
  refine lv_istore (lv' := [(4, .int (-1)), (3, .int (pd_m r2)), (0, .ref y), (1, .int (nI 5)), (2, .int (nI 1))]) hx hb d_p15m39_29 hl (by decide) rfl (fun ls hl => ?_)
  refine lv_iload_n hx hb d_p15m39_31 rfl (lv_at hl 1 rfl) ?_
  refine pd_mge (tgt := 38) hx hb d_p15m39_32 (by decide) (fun x hx => by have z := gr_fi_lt (e5.symm.trans hx); omega) (fun q6 => ?_) (fun j7 q6 => ?_)
  · -- none: 35
    rw [q6] at e5
    rw [q6] at hl
    have hl : lv_has ls 6 [(4, .int (-1)), (3, .int (-1)), (0, .ref y), (1, .int (nI 5)), (2, .int (nI 1))] := hl
    refine lv_bipush (v := -2) hx hb d_p15m39_35 (by decide) ?_
    have hg : gr_jm n R k M u U cs 12 = (-2, 0) := by unfold gr_jm; rw [← hbd]; simp only [e5.symm]
    exact pd_iret (v := (-2)) X w ⟨by rw [hg], pd_kx.rf, fv 41, fv 42, (iv 43), (by rw [hg]; exact pd_MO.ext hMO (fun j9 hj9 => by by_cases e9 : j9 = 42; subst e9; rfl; by_cases e8 : j9 = 41; subst e8; rfl; simp only [pd_fu, if_neg e9, if_neg e8]) (by show pd_mv ad (pd_fu (pd_fu iv 34 (nI dn)) 43 _) tl = _; rw [pd_fu_id (f := iv) (n := 34) hiv34] <;> rfl))⟩ (by decide) (by decide) d_p15m39_37
  · -- some: 38
    rw [q6] at e5
    rw [q6] at hl
    have hl : lv_has ls 6 [(4, .int (-1)), (3, .int (nI j7)), (0, .ref y), (1, .int (nI 5)), (2, .int (nI 1))] := hl
    have j7lt := gr_fi_lt e5.symm
    refine lv_iload_n hx hb d_p15m39_38 rfl (lv_at hl 4 rfl) ?_
    refine pd_zeq (tgt := 82) hx hb d_p15m39_39 (by decide) (by decide) (fun q => absurd q (by decide)) (fun _ => ?_)
    refine lv_aload_n hx hb d_p15m39_42 rfl (lv_at hl 2 rfl) ?_
    refine lv_iload_n hx hb d_p15m39_43 rfl (lv_at hl 1 rfl) ?_
    refine lv_aload_n hx hb d_p15m39_44 rfl (lv_at hl 2 rfl) ?_
    refine pd_get X w hy0 rfl 2 (by decide) mT_1141 rfl rfl d_p15m39_45 ?_
    refine lv_iconst (v := nI 1) hx hb d_p15m39_48 (by decide) ?_
    refine pd_iald X w ha2 (by omega) (by omega) d_p15m39_49 ?_
    refine pd_top (v' := .int (nI (eA 1))) (congrArg Value.int (hW.2 1 (by omega)).2.1) ?_
    refine lv_iconst (v := nI 2) hx hb d_p15m39_50 (by decide) ?_
    refine lv_iload_n hx hb d_p15m39_51 rfl (lv_at hl 3 rfl) ?_
    refine lv_iconst (v := nI 5) hx hb d_p15m39_52 (by decide) ?_
    refine pd_jne (tgt := 60) hx hb d_p15m39_53 (by decide) (by decide) (by decide) (fun q => absurd q (by decide)) (fun _ => ?_)
    refine lv_iconst (v := nI 1) hx hb d_p15m39_56 (by decide) ?_
    refine lv_goto (tgt := 61) hx hb d_p15m39_57 (by decide) ?_
    refine pd_cV (a := y) (As := [.int (nI j7), .int (nI (eA 1)), .int (nI 2), .int (nI 1)]) (rest := []) X w hy0 rfl (c_Mod_foundM l G h (n := n) (R := R) (cs := cs) (k := k) (M := M) (tf := tf) (nw := nw) (sA := sA) (eA := eA) (ad := ad) (fv := fv) (iv := iv) (tl := tl) hMO hC hL hM hK (by omega) hiv40 (by omega) (by omega) hW (by omega) (by rw [hw2]; exact hism)) ok_Mod_foundM ⟨mT_1399, sT_37⟩ mT_1397 ⟨by decide, by decide⟩ rfl hl.1 rfl (Nat.le_of_ble_eq_true rfl) d_p15m39_61 ⟨by decide, by decide⟩ (fun r10 h11 H locs hp12 w => ?_)
    refine W.widen (k := 0) (n := 0) (by decide) (by decide) ?_
    obtain ⟨e13, k14, f15, f16, v17, f18⟩ := hp12
    have f19 := k14 _ _ ha1 (show (31 : Nat) ∉ [20, 71, 72] by decide)
    have f20 := k14 _ _ ha2 (show (32 : Nat) ∉ [20, 71, 72] by decide)
    have f21 := k14 _ _ ha11 (show (41 : Nat) ∉ [20, 71, 72] by decide)
    have f22 := k14 _ _ ha13 (show (43 : Nat) ∉ [20, 71, 72] by decide)
    have f23 := k14 _ _ ha14 (show (44 : Nat) ∉ [20, 71, 72] by decide)
    have f24 := k14 _ _ ha21 (show (51 : Nat) ∉ [20, 71, 72] by decide)
    have f25 := k14 _ _ ha25 (show (55 : Nat) ∉ [20, 71, 72] by decide)
    have f26 := k14 _ _ ha28 (show (58 : Nat) ∉ [20, 71, 72] by decide)
    have hy27 : h11 y = some (20, .inr (10, [.ref (ad 0), .ref (ad 1), .ref (ad 2), .int (iv 3), .int (iv 4), .int (iv 5), .ref (ad 6), .ref (ad 7), .ref (ad 8), .ref (ad 9), .ref (ad 10), .ref (ad 11), .int (iv 12), .ref (ad 13), .ref (ad 14), .ref (ad 15), .ref (ad 16), .ref (ad 17), .ref (ad 18), .ref (ad 19), .int (iv 20), .ref (ad 21), .ref (ad 22), .ref (ad 23), .ref (ad 24), .ref (ad 25), .ref (ad 26), .ref (ad 27), .ref (ad 28), .int (iv 29), .ref (ad 30), .ref (ad 31), .int (iv 32), .int (iv 33), .int (iv 34), .int (iv 35), .long tl, .int (iv 37), .int (iv 38), .int (iv 39), .int (iv 40), .ref (ad 41), .ref (ad 42), .int v17])) := f18.1
    have ha28 : h11 (ad 1) = some (31, .inl (.int, 40, .inl (fv 1))) := (f18.2.2 1 (by decide)).1
    have ha29 : h11 (ad 2) = some (32, .inl (.int, 40, .inl (fv 2))) := (f18.2.2 2 (by decide)).1
    have ha30 : h11 (ad 11) = some (41, .inl (.boolean, 14, .inl (fv 11))) := (f18.2.2 11 (by decide)).1
    have ha31 : h11 (ad 13) = some (43, .inl (.int, 24, .inl (fv 13))) := (f18.2.2 13 (by decide)).1
    have ha32 : h11 (ad 14) = some (44, .inl (.int, 24, .inl (fv 14))) := (f18.2.2 14 (by decide)).1
    have ha33 : h11 (ad 21) = some (51, .inl (.int, 24, .inl (fv 21))) := (f18.2.2 21 (by decide)).1
    have ha34 : h11 (ad 25) = some (55, .inl (.int, 24, .inl (fv 25))) := (f18.2.2 25 (by decide)).1
    have ha35 : h11 (ad 28) = some (58, .inl (.int, 24, .inl (fv 28))) := (f18.2.2 28 (by decide)).1
    have ha36 : h11 (ad 41) = some (71, .inl (.int, 16, .inl (f15))) := (f18.2.2 41 (by decide)).1
    have ha37 : h11 (ad 42) = some (72, .inl (.int, 32, .inl (f16))) := (f18.2.2 42 (by decide)).1
    have e38 : r10 = gr_fnd R k M cs 12 j7 := by unfold gr_fnd; rw [if_pos rfl, ← had, ← hw2, ← gm_all_meth]; exact e13
    refine lv_istore (lv' := [(4, .int (pd_m r10)), (3, .int (nI j7)), (0, .ref y), (1, .int (nI 5)), (2, .int (nI 1))]) hx hb d_p15m39_64 hl (by decide) rfl (fun ls hl => ?_)
    refine lv_iload hx hb d_p15m39_66 (lv_at hl 0 rfl) ?_
    refine pd_mge (tgt := 74) hx hb d_p15m39_68 (by decide) (fun x hx => by have z := gr_fnd_lt (e38.symm.trans hx); omega) (fun q39 => ?_) (fun j40 q39 => ?_)
    · -- none: 71
      rw [q39] at e38
      rw [q39] at hl
      have hl : lv_has ls 6 [(4, .int (-1)), (3, .int (nI j7)), (0, .ref y), (1, .int (nI 5)), (2, .int (nI 1))] := hl
      refine lv_bipush (v := -2) hx hb d_p15m39_71 (by decide) ?_
      have hg : gr_jm n R k M u U cs 12 = (-2, 0) := by unfold gr_jm; rw [← hbd]; simp only [e5.symm, e38.symm]
      exact pd_iret (v := (-2)) X w ⟨by rw [hg], k14, f15, f16, v17, (by rw [hg]; exact pd_MO.ext f18 (fun j9 hj9 => by by_cases e9 : j9 = 42; subst e9; rfl; by_cases e8 : j9 = 41; subst e8; rfl; simp only [pd_fu, if_neg e9, if_neg e8]) (by show pd_mv ad (pd_fu (pd_fu iv 34 (nI dn)) 43 _) tl = _; rw [pd_fu_id (f := iv) (n := 34) hiv34] <;> rfl))⟩ (by decide) (by decide) d_p15m39_73
    · -- some: 74
      rw [q39] at e38
      rw [q39] at hl
      have hl : lv_has ls 6 [(4, .int (nI j40)), (3, .int (nI j7)), (0, .ref y), (1, .int (nI 5)), (2, .int (nI 1))] := hl
      have j40lt := gr_fnd_lt e38.symm
      have hsh : (M j40).2.2.1 = gr_w cs 2 := gr_fnd_sh e38.symm
      have hism2 : gr_ism (M j40).2.2.1 = true := by rw [hsh]; exact hism
      have hon := (hMm j40 (by omega)).2.1
      refine lv_aload_n hx hb d_p15m39_74 rfl (lv_at hl 2 rfl) ?_
      refine pd_get X w hy27 rfl 13 (by decide) mT_1152 rfl rfl d_p15m39_75 ?_
      refine lv_iload hx hb d_p15m39_78 (lv_at hl 0 rfl) ?_
      refine pd_iald X w ha31 (by omega) (by omega) d_p15m39_80 ?_
      refine pd_top (v' := .int (nI ((M j40).1))) (congrArg Value.int (hMm j40 (by omega)).1) ?_
      have hon := (hMm j40 (by omega)).2.1
      refine lv_istore_n (lv' := [(3, .int (nI ((M j40).1))), (4, .int (nI j40)), (0, .ref y), (1, .int (nI 5)), (2, .int (nI 1))]) hx hb d_p15m39_81 rfl hl (by decide) rfl (fun ls hl => ?_)
      refine lv_iload_n hx hb d_p15m39_82 rfl (lv_at hl 3 rfl) ?_
      refine lv_iconst (v := nI 1) hx hb d_p15m39_83 (by decide) ?_
      refine pd_jne (tgt := 99) hx hb d_p15m39_84 (by decide) (by decide) (by decide) (fun _ => ?_) (fun q => absurd q (by decide))
      refine lv_iload_n hx hb d_p15m39_99 rfl (lv_at hl 3 rfl) ?_
      refine lv_iconst (v := nI 3) hx hb d_p15m39_100 (by decide) ?_
      refine pd_jne (tgt := 125) hx hb d_p15m39_101 (by decide) (by decide) (by decide) (fun _ => ?_) (fun q => absurd q (by decide))
      refine lv_iload_n hx hb d_p15m39_125 rfl (lv_at hl 3 rfl) ?_
      refine lv_iconst (v := nI 5) hx hb d_p15m39_126 (by decide) ?_
      refine pd_jne (tgt := 142) hx hb d_p15m39_127 (by decide) (by decide) (by decide) (fun q => absurd q (by decide)) (fun _ => ?_)
      refine lv_aload_n hx hb d_p15m39_130 rfl (lv_at hl 2 rfl) ?_
      refine lv_iconst (v := nI 3) hx hb d_p15m39_131 (by decide) ?_
      refine lv_iconst (v := nI 3) hx hb d_p15m39_132 (by decide) ?_
      refine lv_iload_n hx hb d_p15m39_133 rfl (lv_at hl 0 rfl) ?_
      refine lv_iload hx hb d_p15m39_134 (lv_at hl 1 rfl) ?_
      refine pd_cV (a := y) (As := [.int (nI 3), .int (nI 3), .int (nI ((M j40).1)), .int (nI j40)]) (rest := []) X w hy27 rfl (c_Mod_best l G h11 (n := n) (R := R) (k := k) (M := M) (u := u) (U := U) (w1 := 3) (w2 := 3) (c9 := (M j40).1) (o := some j40) (ad := ad) (fv := pd_fu (pd_fu fv 41 f15) 42 f16) (iv := pd_fu iv 43 v17) (tl := tl) f18 hC hM hU (by omega) (by omega) (by omega) (fun t ht => by cases ht; omega)) ok_Mod_best ⟨mT_1415, sT_41⟩ mT_1413 ⟨by decide, by decide⟩ rfl hl.1 rfl (Nat.le_of_ble_eq_true rfl) d_p15m39_136 ⟨by decide, by decide⟩ (fun r44 h45 H locs hp46 w => ?_)
      refine W.widen (k := 0) (n := 0) (by decide) (by decide) ?_
      obtain ⟨e47, rfl⟩ := hp46
      refine lv_goto (tgt := 143) hx hb d_p15m39_139 (by decide) ?_
      refine lv_istore (lv' := [(5, .int (pd_m r44)), (3, .int (nI ((M j40).1))), (4, .int (nI j40)), (0, .ref y), (1, .int (nI 5)), (2, .int (nI 1))]) hx hb d_p15m39_143 hl (by decide) rfl (fun ls hl => ?_)
      refine lv_iload hx hb d_p15m39_145 (lv_at hl 0 rfl) ?_
      refine pd_mlt (tgt := 172) hx hb d_p15m39_147 (by decide) (fun x hx => by have z := gr_bst_lt (e47.symm.trans hx); omega) (fun q48 => ?_) (fun j49 q48 => ?_)
      · -- none: 172
        rw [q48] at e47
        rw [q48] at hl
        have hl : lv_has ls 6 [(5, .int (-1)), (3, .int (nI ((M j40).1))), (4, .int (nI j40)), (0, .ref y), (1, .int (nI 5)), (2, .int (nI 1))] := hl
        refine lv_aload_n hx hb d_p15m39_172 rfl (lv_at hl 3 rfl) ?_
        refine lv_iconst (v := nI 0) hx hb d_p15m39_173 (by decide) ?_
        refine lv_iconst (v := nI 1) hx hb d_p15m39_174 (by decide) ?_
        refine lv_iload_n hx hb d_p15m39_175 rfl (lv_at hl 1 rfl) ?_
        refine lv_iload hx hb d_p15m39_176 (lv_at hl 2 rfl) ?_
        refine pd_cV (a := y) (As := [.int (nI 0), .int (nI 1), .int (nI ((M j40).1)), .int (nI j40)]) (rest := []) X w hy27 rfl (c_Mod_best l G h11 (n := n) (R := R) (k := k) (M := M) (u := u) (U := U) (w1 := 0) (w2 := 1) (c9 := (M j40).1) (o := some j40) (ad := ad) (fv := pd_fu (pd_fu fv 41 f15) 42 f16) (iv := pd_fu iv 43 v17) (tl := tl) f18 hC hM hU (by omega) (by omega) (by omega) (fun t ht => by cases ht; omega)) ok_Mod_best ⟨mT_1415, sT_41⟩ mT_1413 ⟨by decide, by decide⟩ rfl hl.1 rfl (Nat.le_of_ble_eq_true rfl) d_p15m39_178 ⟨by decide, by decide⟩ (fun r50 h51 H locs hp52 w => ?_)
        refine W.widen (k := 0) (n := 0) (by decide) (by decide) ?_
        obtain ⟨e53, rfl⟩ := hp52
        refine lv_istore (lv' := [(5, .int (pd_m r50)), (3, .int (nI ((M j40).1))), (4, .int (nI j40)), (0, .ref y), (1, .int (nI 5)), (2, .int (nI 1))]) hx hb d_p15m39_181 hl (by decide) rfl (fun ls hl => ?_)
        refine lv_iload hx hb d_p15m39_183 (lv_at hl 0 rfl) ?_
        refine pd_mge (tgt := 191) hx hb d_p15m39_185 (by decide) (fun x hx => by have z := gr_bst_lt (e53.symm.trans hx); omega) (fun q54 => ?_) (fun j55 q54 => ?_)
        · -- none: 188
          rw [q54] at e53
          rw [q54] at hl
          have hl : lv_has ls 6 [(5, .int (-1)), (3, .int (nI ((M j40).1))), (4, .int (nI j40)), (0, .ref y), (1, .int (nI 5)), (2, .int (nI 1))] := hl
          refine lv_bipush (v := -7) hx hb d_p15m39_188 (by decide) ?_
          have hsm : gr_shm R M u U 12 j40 = none := by unfold gr_shm; rw [if_pos rfl]; exact e47.symm
          have hwg : gr_wg R M u U ((M j40).1) (some j40) = (-7, 0) := by unfold gr_wg; simp only [e53.symm]
          have hg : gr_jm n R k M u U cs 12 = (-7, 0) := by unfold gr_jm; rw [← hbd]; simp only [e5.symm, e38.symm, hsm]; exact hwg
          exact pd_iret (v := (-7)) X w ⟨by rw [hg], k14, f15, f16, v17, (by rw [hg]; exact pd_MO.ext f18 (fun j9 hj9 => by by_cases e9 : j9 = 42; subst e9; rfl; by_cases e8 : j9 = 41; subst e8; rfl; simp only [pd_fu, if_neg e9, if_neg e8]) (by show pd_mv ad (pd_fu (pd_fu iv 34 (nI dn)) 43 _) tl = _; rw [pd_fu_id (f := iv) (n := 34) hiv34] <;> rfl))⟩ (by decide) (by decide) d_p15m39_190
        · -- some: 191
          rw [q54] at e53
          rw [q54] at hl
          have hl : lv_has ls 6 [(5, .int (nI j55)), (3, .int (nI ((M j40).1))), (4, .int (nI j40)), (0, .ref y), (1, .int (nI 5)), (2, .int (nI 1))] := hl
          have j55lt := gr_bst_lt e53.symm
          refine lv_aload_n hx hb d_p15m39_191 rfl (lv_at hl 3 rfl) ?_
          refine lv_dup hx hb d_p15m39_192 rfl ?_
          refine pd_get X w hy27 rfl 34 (by decide) mT_1173 rfl rfl d_p15m39_193 ?_
          refine pd_top (v' := .int (nI dn)) (congrArg Value.int hiv34) ?_
          refine lv_iconst (v := nI 1) hx hb d_p15m39_196 (by decide) ?_
          refine pd_iadd hx hb d_p15m39_197 ?_
          refine pd_put (ty := .int) X w hy27 hz_y rfl 34 (by decide) mT_1173 rfl rfl (by decide +kernel) rfl rfl (Nat.le_of_ble_eq_true rfl) d_p15m39_198 (fun H locs w => ?_)
          have w : pd_w G s H locs (pd_up h11 y (20, .inr (10, [.ref (ad 0), .ref (ad 1), .ref (ad 2), .int (iv 3), .int (iv 4), .int (iv 5), .ref (ad 6), .ref (ad 7), .ref (ad 8), .ref (ad 9), .ref (ad 10), .ref (ad 11), .int (iv 12), .ref (ad 13), .ref (ad 14), .ref (ad 15), .ref (ad 16), .ref (ad 17), .ref (ad 18), .ref (ad 19), .int (iv 20), .ref (ad 21), .ref (ad 22), .ref (ad 23), .ref (ad 24), .ref (ad 25), .ref (ad 26), .ref (ad 27), .ref (ad 28), .int (iv 29), .ref (ad 30), .ref (ad 31), .int (iv 32), .int (iv 33), .int (nI (dn + 1)), .int (iv 35), .long tl, .int (iv 37), .int (iv 38), .int (iv 39), .int (iv 40), .ref (ad 41), .ref (ad 42), .int v17]))) := w
          obtain ⟨h56, u59⟩ : ∃ z, z = pd_up h11 y (20, .inr (10, [.ref (ad 0), .ref (ad 1), .ref (ad 2), .int (iv 3), .int (iv 4), .int (iv 5), .ref (ad 6), .ref (ad 7), .ref (ad 8), .ref (ad 9), .ref (ad 10), .ref (ad 11), .int (iv 12), .ref (ad 13), .ref (ad 14), .ref (ad 15), .ref (ad 16), .ref (ad 17), .ref (ad 18), .ref (ad 19), .int (iv 20), .ref (ad 21), .ref (ad 22), .ref (ad 23), .ref (ad 24), .ref (ad 25), .ref (ad 26), .ref (ad 27), .ref (ad 28), .int (iv 29), .ref (ad 30), .ref (ad 31), .int (iv 32), .int (iv 33), .int (nI (dn + 1)), .int (iv 35), .long tl, .int (iv 37), .int (iv 38), .int (iv 39), .int (iv 40), .ref (ad 41), .ref (ad 42), .int v17])) := ⟨_, rfl⟩
          rw [← u59] at w
          have k57 : pd_kq y h11 h56 := by rw [u59]; exact pd_up_kq
          have f58 : h56 y = some (20, .inr (10, [.ref (ad 0), .ref (ad 1), .ref (ad 2), .int (iv 3), .int (iv 4), .int (iv 5), .ref (ad 6), .ref (ad 7), .ref (ad 8), .ref (ad 9), .ref (ad 10), .ref (ad 11), .int (iv 12), .ref (ad 13), .ref (ad 14), .ref (ad 15), .ref (ad 16), .ref (ad 17), .ref (ad 18), .ref (ad 19), .int (iv 20), .ref (ad 21), .ref (ad 22), .ref (ad 23), .ref (ad 24), .ref (ad 25), .ref (ad 26), .ref (ad 27), .ref (ad 28), .int (iv 29), .ref (ad 30), .ref (ad 31), .int (iv 32), .int (iv 33), .int (nI (dn + 1)), .int (iv 35), .long tl, .int (iv 37), .int (iv 38), .int (iv 39), .int (iv 40), .ref (ad 41), .ref (ad 42), .int v17])) := by rw [u59]; exact pd_up_s _ _ _
          have f60 := k57 _ _ (pd_ne ha28 hy27 (by simp)) ha28
          have f61 := k57 _ _ (pd_ne ha29 hy27 (by simp)) ha29
          have f62 := k57 _ _ (pd_ne ha30 hy27 (by simp)) ha30
          have f63 := k57 _ _ (pd_ne ha31 hy27 (by simp)) ha31
          have f64 := k57 _ _ (pd_ne ha32 hy27 (by simp)) ha32
          have f65 := k57 _ _ (pd_ne ha33 hy27 (by simp)) ha33
          have f66 := k57 _ _ (pd_ne ha34 hy27 (by simp)) ha34
          have f67 := k57 _ _ (pd_ne ha35 hy27 (by simp)) ha35
          have f68 := k57 _ _ (pd_ne ha36 hy27 (by simp)) ha36
          have f69 := k57 _ _ (pd_ne ha37 hy27 (by simp)) ha37
          refine lv_aload_n hx hb d_p15m39_201 rfl (lv_at hl 3 rfl) ?_
          refine pd_get X w f58 rfl 21 (by decide) mT_1160 rfl rfl d_p15m39_202 ?_
          refine lv_iload hx hb d_p15m39_205 (lv_at hl 0 rfl) ?_
          refine pd_iald X w f65 (by omega) (by omega) d_p15m39_207 ?_
          refine pd_top (v' := .int (nI ((U j55).1 - 4))) (congrArg Value.int (hUu j55 (by omega)).1) ?_
          have hv47 := (hUu j55 (by omega)).2.1
          refine lv_iconst (v := nI 1) hx hb d_p15m39_208 (by decide) ?_
          refine pd_jeq (tgt := 240) hx hb d_p15m39_209 (by decide) (by omega) (by omega) (fun q70 => ?_) (fun q70 => ?_)
          · -- taken: 240
            refine lv_bipush (v := -7) hx hb d_p15m39_240 (by decide) ?_
            have hsm : gr_shm R M u U 12 j40 = none := by unfold gr_shm; rw [if_pos rfl]; exact e47.symm
            have hwg : gr_wg R M u U ((M j40).1) (some j40) = (-7, 1) := by unfold gr_wg; simp only [e53.symm]; rw [if_pos (Or.inl (by omega))]
            have hg : gr_jm n R k M u U cs 12 = (-7, 1) := by unfold gr_jm; rw [← hbd]; simp only [e5.symm, e38.symm, hsm]; exact hwg
            have mo71 : pd_MO G h56 y ad (pd_fu (pd_fu fv 41 f15) 42 f16) (pd_fu (pd_fu iv 43 v17) 34 (nI (dn + 1))) tl := pd_MO.of (ts := [20]) f18 (pd_kq.kx (k57) hy27) f58 (fun j hj => Or.inr ⟨fun z => by first | (simp at z; done) | (simp at z; omega), rfl⟩)
            exact pd_iret (v := (-7)) X w ⟨by rw [hg], pd_kx.tr (k14) (pd_kx.mono (us := [20, 71, 72]) (pd_kq.kx (k57) hy27) (by simp)), f15, f16, v17, (by rw [hg]; exact pd_MO.ext mo71 (fun j9 hj9 => by by_cases e9 : j9 = 42; subst e9; rfl; by_cases e8 : j9 = 41; subst e8; rfl; simp only [pd_fu, if_neg e9, if_neg e8]) (rfl))⟩ (by decide) (by decide) d_p15m39_242
          · -- not taken: 212
            refine lv_iload_n hx hb d_p15m39_212 rfl (lv_at hl 4 rfl) ?_
            refine lv_iconst (v := nI 5) hx hb d_p15m39_213 (by decide) ?_
            refine pd_jne (tgt := 243) hx hb d_p15m39_214 (by decide) (by decide) (by decide) (fun q => absurd q (by decide)) (fun _ => ?_)
            refine lv_aload_n hx hb d_p15m39_217 rfl (lv_at hl 3 rfl) ?_
            refine pd_get X w f58 rfl 14 (by decide) mT_1153 rfl rfl d_p15m39_218 ?_
            refine lv_iload hx hb d_p15m39_221 (lv_at hl 2 rfl) ?_
            refine pd_iald X w f64 (by omega) (by omega) d_p15m39_223 ?_
            refine pd_top (v' := .int (nI ((M j40).2.2.2))) (congrArg Value.int (hMm j40 (by omega)).2.2.1) ?_
            refine lv_iconst (v := nI 2) hx hb d_p15m39_224 (by decide) ?_
            refine lv_iand hx hb d_p15m39_225 ?_
            refine lv_if_eq (tgt := 243) hx hb d_p15m39_226 (by decide) (fun q73 => ?_) (fun q73 => ?_)
            · -- taken: 243
              refine lv_aload_n hx hb d_p15m39_243 rfl (lv_at hl 3 rfl) ?_
              refine lv_iconst (v := nI 2) hx hb d_p15m39_244 (by decide) ?_
              refine lv_iconst (v := nI 2) hx hb d_p15m39_245 (by decide) ?_
              refine lv_iload_n hx hb d_p15m39_246 rfl (lv_at hl 1 rfl) ?_
              refine lv_iload hx hb d_p15m39_247 (lv_at hl 2 rfl) ?_
              have mo74 : pd_MO G h56 y ad (pd_fu (pd_fu fv 41 f15) 42 f16) (pd_fu (pd_fu iv 43 v17) 34 (nI (dn + 1))) tl := pd_MO.of (ts := [20]) f18 (pd_kq.kx (k57) hy27) f58 (fun j hj => Or.inr ⟨fun z => by first | (simp at z; done) | (simp at z; omega), rfl⟩)
              refine pd_cV (a := y) (As := [.int (nI 2), .int (nI 2), .int (nI ((M j40).1)), .int (nI j40)]) (rest := []) X w f58 rfl (c_Mod_best l G h56 (n := n) (R := R) (k := k) (M := M) (u := u) (U := U) (w1 := 2) (w2 := 2) (c9 := (M j40).1) (o := some j40) (ad := ad) (fv := pd_fu (pd_fu fv 41 f15) 42 f16) (iv := pd_fu (pd_fu iv 43 v17) 34 (nI (dn + 1))) (tl := tl) mo74 hC hM hU (by omega) (by omega) (by omega) (fun t ht => by cases ht; omega)) ok_Mod_best ⟨mT_1415, sT_41⟩ mT_1413 ⟨by decide, by decide⟩ rfl hl.1 rfl (Nat.le_of_ble_eq_true rfl) d_p15m39_249 ⟨by decide, by decide⟩ (fun r75 h76 H locs hp77 w => ?_)
              refine W.widen (k := 0) (n := 0) (by decide) (by decide) ?_
              obtain ⟨e78, rfl⟩ := hp77
              refine lv_istore (lv' := [(5, .int (pd_m r75)), (3, .int (nI ((M j40).1))), (4, .int (nI j40)), (0, .ref y), (1, .int (nI 5)), (2, .int (nI 1))]) hx hb d_p15m39_252 hl (by decide) rfl (fun ls hl => ?_)
              refine lv_iload hx hb d_p15m39_254 (lv_at hl 0 rfl) ?_
              refine pd_mge (tgt := 263) hx hb d_p15m39_256 (by decide) (fun x hx => by have z := gr_bst_lt (e78.symm.trans hx); omega) (fun q79 => ?_) (fun j80 q79 => ?_)
              · -- none: 259
                rw [q79] at e78
                rw [q79] at hl
                have hl : lv_has ls 6 [(5, .int (-1)), (3, .int (nI ((M j40).1))), (4, .int (nI j40)), (0, .ref y), (1, .int (nI 5)), (2, .int (nI 1))] := hl
                refine lv_iconst (v := nI 1) hx hb d_p15m39_259 (by decide) ?_
                refine lv_goto (tgt := 270) hx hb d_p15m39_260 (by decide) ?_
                have hsm : gr_shm R M u U 12 j40 = none := by unfold gr_shm; rw [if_pos rfl]; exact e47.symm
                have hwg : gr_wg R M u U ((M j40).1) (some j40) = (nI 1, 1) := by unfold gr_wg; simp only [e53.symm]; rw [if_neg (fun h9 => h9.elim (fun y => by omega) (fun y => by have y1 : (gr_ism (M j40).2.2.1 && gr_mkb (M j40).2.2.2 2) = true := y.1; unfold gr_mkb at y1; rw [decide_eq_true q73, Bool.and_comm] at y1; cases y1))]; simp only [e78.symm]
                have hg : gr_jm n R k M u U cs 12 = (nI 1, 1) := by unfold gr_jm; rw [← hbd]; simp only [e5.symm, e38.symm, hsm]; exact hwg
                have mo81 : pd_MO G h56 y ad (pd_fu (pd_fu fv 41 f15) 42 f16) (pd_fu (pd_fu iv 43 v17) 34 (nI (dn + 1))) tl := pd_MO.of (ts := [20]) f18 (pd_kq.kx (k57) hy27) f58 (fun j hj => Or.inr ⟨fun z => by first | (simp at z; done) | (simp at z; omega), rfl⟩)
                exact pd_iret (v := (nI 1)) X w ⟨by rw [hg], pd_kx.tr (k14) (pd_kx.mono (us := [20, 71, 72]) (pd_kq.kx (k57) hy27) (by simp)), f15, f16, v17, (by rw [hg]; exact pd_MO.ext mo81 (fun j9 hj9 => by by_cases e9 : j9 = 42; subst e9; rfl; by_cases e8 : j9 = 41; subst e8; rfl; simp only [pd_fu, if_neg e9, if_neg e8]) (rfl))⟩ (by decide) (by decide) d_p15m39_270
              · -- some: 263
                rw [q79] at e78
                rw [q79] at hl
                have hl : lv_has ls 6 [(5, .int (nI j80)), (3, .int (nI ((M j40).1))), (4, .int (nI j40)), (0, .ref y), (1, .int (nI 5)), (2, .int (nI 1))] := hl
                have j80lt := gr_bst_lt e78.symm
                refine lv_aload_n hx hb d_p15m39_263 rfl (lv_at hl 3 rfl) ?_
                refine pd_get X w f58 rfl 28 (by decide) mT_1167 rfl rfl d_p15m39_264 ?_
                refine lv_iload hx hb d_p15m39_267 (lv_at hl 0 rfl) ?_
                refine pd_iald X w f67 (by omega) (by omega) d_p15m39_269 ?_
                refine pd_top (v' := .int (nI (gm_rn (U j80)))) (congrArg Value.int (hUu j80 (by omega)).2.2.2.2.2.2.2.2.2.1) ?_
                have hrn := (hUu j80 (by omega)).2.2.2.2.2.2.2.2.2.2
                have hsm : gr_shm R M u U 12 j40 = none := by unfold gr_shm; rw [if_pos rfl]; exact e47.symm
                have hwg : gr_wg R M u U ((M j40).1) (some j40) = (nI (gm_rn (U j80)), 1) := by unfold gr_wg; simp only [e53.symm]; rw [if_neg (fun h9 => h9.elim (fun y => by omega) (fun y => by have y1 : (gr_ism (M j40).2.2.1 && gr_mkb (M j40).2.2.2 2) = true := y.1; unfold gr_mkb at y1; rw [decide_eq_true q73, Bool.and_comm] at y1; cases y1))]; simp only [e78.symm]; rw [gm_rn_c hV j80lt (by have z9 := gr_bst_v e78.symm; omega)]
                have hg : gr_jm n R k M u U cs 12 = (nI (gm_rn (U j80)), 1) := by unfold gr_jm; rw [← hbd]; simp only [e5.symm, e38.symm, hsm]; exact hwg
                have mo82 : pd_MO G h56 y ad (pd_fu (pd_fu fv 41 f15) 42 f16) (pd_fu (pd_fu iv 43 v17) 34 (nI (dn + 1))) tl := pd_MO.of (ts := [20]) f18 (pd_kq.kx (k57) hy27) f58 (fun j hj => Or.inr ⟨fun z => by first | (simp at z; done) | (simp at z; omega), rfl⟩)
                exact pd_iret (v := (nI (gm_rn (U j80)))) X w ⟨by rw [hg], pd_kx.tr (k14) (pd_kx.mono (us := [20, 71, 72]) (pd_kq.kx (k57) hy27) (by simp)), f15, f16, v17, (by rw [hg]; exact pd_MO.ext mo82 (fun j9 hj9 => by by_cases e9 : j9 = 42; subst e9; rfl; by_cases e8 : j9 = 41; subst e8; rfl; simp only [pd_fu, if_neg e9, if_neg e8]) (rfl))⟩ (by decide) (by decide) d_p15m39_270
            · -- not taken: 229
              refine lv_aload_n hx hb d_p15m39_229 rfl (lv_at hl 3 rfl) ?_
              refine pd_get X w f58 rfl 25 (by decide) mT_1164 rfl rfl d_p15m39_230 ?_
              refine lv_iload hx hb d_p15m39_233 (lv_at hl 0 rfl) ?_
              refine pd_iald X w f66 (by omega) (by omega) d_p15m39_235 ?_
              refine pd_top (v' := .int (nI (gr_bh (U j55).2.1))) (congrArg Value.int (hUu j55 (by omega)).2.2.2.2.2.2.2.1) ?_
              have hbh := gr_bh_le (U j55).2.1
              refine lv_iconst (v := nI 2) hx hb d_p15m39_236 (by decide) ?_
              refine pd_jge (tgt := 243) hx hb d_p15m39_237 (by decide) (by omega) (by omega) (fun q83 => ?_) (fun q83 => ?_)
              · -- taken: 243
                refine lv_aload_n hx hb d_p15m39_243 rfl (lv_at hl 3 rfl) ?_
                refine lv_iconst (v := nI 2) hx hb d_p15m39_244 (by decide) ?_
                refine lv_iconst (v := nI 2) hx hb d_p15m39_245 (by decide) ?_
                refine lv_iload_n hx hb d_p15m39_246 rfl (lv_at hl 1 rfl) ?_
                refine lv_iload hx hb d_p15m39_247 (lv_at hl 2 rfl) ?_
                have mo84 : pd_MO G h56 y ad (pd_fu (pd_fu fv 41 f15) 42 f16) (pd_fu (pd_fu iv 43 v17) 34 (nI (dn + 1))) tl := pd_MO.of (ts := [20]) f18 (pd_kq.kx (k57) hy27) f58 (fun j hj => Or.inr ⟨fun z => by first | (simp at z; done) | (simp at z; omega), rfl⟩)
                refine pd_cV (a := y) (As := [.int (nI 2), .int (nI 2), .int (nI ((M j40).1)), .int (nI j40)]) (rest := []) X w f58 rfl (c_Mod_best l G h56 (n := n) (R := R) (k := k) (M := M) (u := u) (U := U) (w1 := 2) (w2 := 2) (c9 := (M j40).1) (o := some j40) (ad := ad) (fv := pd_fu (pd_fu fv 41 f15) 42 f16) (iv := pd_fu (pd_fu iv 43 v17) 34 (nI (dn + 1))) (tl := tl) mo84 hC hM hU (by omega) (by omega) (by omega) (fun t ht => by cases ht; omega)) ok_Mod_best ⟨mT_1415, sT_41⟩ mT_1413 ⟨by decide, by decide⟩ rfl hl.1 rfl (Nat.le_of_ble_eq_true rfl) d_p15m39_249 ⟨by decide, by decide⟩ (fun r85 h86 H locs hp87 w => ?_)
                refine W.widen (k := 0) (n := 0) (by decide) (by decide) ?_
                obtain ⟨e88, rfl⟩ := hp87
                refine lv_istore (lv' := [(5, .int (pd_m r85)), (3, .int (nI ((M j40).1))), (4, .int (nI j40)), (0, .ref y), (1, .int (nI 5)), (2, .int (nI 1))]) hx hb d_p15m39_252 hl (by decide) rfl (fun ls hl => ?_)
                refine lv_iload hx hb d_p15m39_254 (lv_at hl 0 rfl) ?_
                refine pd_mge (tgt := 263) hx hb d_p15m39_256 (by decide) (fun x hx => by have z := gr_bst_lt (e88.symm.trans hx); omega) (fun q89 => ?_) (fun j90 q89 => ?_)
                · -- none: 259
                  rw [q89] at e88
                  rw [q89] at hl
                  have hl : lv_has ls 6 [(5, .int (-1)), (3, .int (nI ((M j40).1))), (4, .int (nI j40)), (0, .ref y), (1, .int (nI 5)), (2, .int (nI 1))] := hl
                  refine lv_iconst (v := nI 1) hx hb d_p15m39_259 (by decide) ?_
                  refine lv_goto (tgt := 270) hx hb d_p15m39_260 (by decide) ?_
                  have hsm : gr_shm R M u U 12 j40 = none := by unfold gr_shm; rw [if_pos rfl]; exact e47.symm
                  have hwg : gr_wg R M u U ((M j40).1) (some j40) = (nI 1, 1) := by unfold gr_wg; simp only [e53.symm]; rw [if_neg (fun h9 => h9.elim (fun y => by omega) (fun y => y.2 (by omega)))]; simp only [e88.symm]
                  have hg : gr_jm n R k M u U cs 12 = (nI 1, 1) := by unfold gr_jm; rw [← hbd]; simp only [e5.symm, e38.symm, hsm]; exact hwg
                  have mo91 : pd_MO G h56 y ad (pd_fu (pd_fu fv 41 f15) 42 f16) (pd_fu (pd_fu iv 43 v17) 34 (nI (dn + 1))) tl := pd_MO.of (ts := [20]) f18 (pd_kq.kx (k57) hy27) f58 (fun j hj => Or.inr ⟨fun z => by first | (simp at z; done) | (simp at z; omega), rfl⟩)
                  exact pd_iret (v := (nI 1)) X w ⟨by rw [hg], pd_kx.tr (k14) (pd_kx.mono (us := [20, 71, 72]) (pd_kq.kx (k57) hy27) (by simp)), f15, f16, v17, (by rw [hg]; exact pd_MO.ext mo91 (fun j9 hj9 => by by_cases e9 : j9 = 42; subst e9; rfl; by_cases e8 : j9 = 41; subst e8; rfl; simp only [pd_fu, if_neg e9, if_neg e8]) (rfl))⟩ (by decide) (by decide) d_p15m39_270
                · -- some: 263
                  rw [q89] at e88
                  rw [q89] at hl
                  have hl : lv_has ls 6 [(5, .int (nI j90)), (3, .int (nI ((M j40).1))), (4, .int (nI j40)), (0, .ref y), (1, .int (nI 5)), (2, .int (nI 1))] := hl
                  have j90lt := gr_bst_lt e88.symm
                  refine lv_aload_n hx hb d_p15m39_263 rfl (lv_at hl 3 rfl) ?_
                  refine pd_get X w f58 rfl 28 (by decide) mT_1167 rfl rfl d_p15m39_264 ?_
                  refine lv_iload hx hb d_p15m39_267 (lv_at hl 0 rfl) ?_
                  refine pd_iald X w f67 (by omega) (by omega) d_p15m39_269 ?_
                  refine pd_top (v' := .int (nI (gm_rn (U j90)))) (congrArg Value.int (hUu j90 (by omega)).2.2.2.2.2.2.2.2.2.1) ?_
                  have hrn := (hUu j90 (by omega)).2.2.2.2.2.2.2.2.2.2
                  have hsm : gr_shm R M u U 12 j40 = none := by unfold gr_shm; rw [if_pos rfl]; exact e47.symm
                  have hwg : gr_wg R M u U ((M j40).1) (some j40) = (nI (gm_rn (U j90)), 1) := by unfold gr_wg; simp only [e53.symm]; rw [if_neg (fun h9 => h9.elim (fun y => by omega) (fun y => y.2 (by omega)))]; simp only [e88.symm]; rw [gm_rn_c hV j90lt (by have z9 := gr_bst_v e88.symm; omega)]
                  have hg : gr_jm n R k M u U cs 12 = (nI (gm_rn (U j90)), 1) := by unfold gr_jm; rw [← hbd]; simp only [e5.symm, e38.symm, hsm]; exact hwg
                  have mo92 : pd_MO G h56 y ad (pd_fu (pd_fu fv 41 f15) 42 f16) (pd_fu (pd_fu iv 43 v17) 34 (nI (dn + 1))) tl := pd_MO.of (ts := [20]) f18 (pd_kq.kx (k57) hy27) f58 (fun j hj => Or.inr ⟨fun z => by first | (simp at z; done) | (simp at z; omega), rfl⟩)
                  exact pd_iret (v := (nI (gm_rn (U j90)))) X w ⟨by rw [hg], pd_kx.tr (k14) (pd_kx.mono (us := [20, 71, 72]) (pd_kq.kx (k57) hy27) (by simp)), f15, f16, v17, (by rw [hg]; exact pd_MO.ext mo92 (fun j9 hj9 => by by_cases e9 : j9 = 42; subst e9; rfl; by_cases e8 : j9 = 41; subst e8; rfl; simp only [pd_fu, if_neg e9, if_neg e8]) (rfl))⟩ (by decide) (by decide) d_p15m39_270
              · -- not taken: 240
                refine lv_bipush (v := -7) hx hb d_p15m39_240 (by decide) ?_
                have hsm : gr_shm R M u U 12 j40 = none := by unfold gr_shm; rw [if_pos rfl]; exact e47.symm
                have hwg : gr_wg R M u U ((M j40).1) (some j40) = (-7, 1) := by unfold gr_wg; simp only [e53.symm]; rw [if_pos (Or.inr ⟨(by show (gr_ism (M j40).2.2.1 && gr_mkb (M j40).2.2.2 2) = true; unfold gr_mkb; rw [hism2, decide_eq_false q73]; rfl), by omega⟩)]
                have hg : gr_jm n R k M u U cs 12 = (-7, 1) := by unfold gr_jm; rw [← hbd]; simp only [e5.symm, e38.symm, hsm]; exact hwg
                have mo93 : pd_MO G h56 y ad (pd_fu (pd_fu fv 41 f15) 42 f16) (pd_fu (pd_fu iv 43 v17) 34 (nI (dn + 1))) tl := pd_MO.of (ts := [20]) f18 (pd_kq.kx (k57) hy27) f58 (fun j hj => Or.inr ⟨fun z => by first | (simp at z; done) | (simp at z; omega), rfl⟩)
                exact pd_iret (v := (-7)) X w ⟨by rw [hg], pd_kx.tr (k14) (pd_kx.mono (us := [20, 71, 72]) (pd_kq.kx (k57) hy27) (by simp)), f15, f16, v17, (by rw [hg]; exact pd_MO.ext mo93 (fun j9 hj9 => by by_cases e9 : j9 = 42; subst e9; rfl; by_cases e8 : j9 = 41; subst e8; rfl; simp only [pd_fu, if_neg e9, if_neg e8]) (rfl))⟩ (by decide) (by decide) d_p15m39_242
      · -- some: 150
        rw [q48] at e47
        rw [q48] at hl
        have hl : lv_has ls 6 [(5, .int (nI j49)), (3, .int (nI ((M j40).1))), (4, .int (nI j40)), (0, .ref y), (1, .int (nI 5)), (2, .int (nI 1))] := hl
        have j49lt := gr_bst_lt e47.symm
        obtain ⟨b9, hb9, hbk⟩ := (hV j49 j49lt).1 (by have z9 := gr_bst_v e47.symm; omega)
        have hrb : gm_rn (U j49) = b9 := by unfold gm_rn; rw [hb9]
        refine lv_aload_n hx hb d_p15m39_150 rfl (lv_at hl 3 rfl) ?_
        refine lv_dup hx hb d_p15m39_151 rfl ?_
        refine pd_get X w hy27 rfl 34 (by decide) mT_1173 rfl rfl d_p15m39_152 ?_
        refine pd_top (v' := .int (nI dn)) (congrArg Value.int hiv34) ?_
        refine lv_iconst (v := nI 1) hx hb d_p15m39_155 (by decide) ?_
        refine pd_iadd hx hb d_p15m39_156 ?_
        refine pd_put (ty := .int) X w hy27 hz_y rfl 34 (by decide) mT_1173 rfl rfl (by decide +kernel) rfl rfl (Nat.le_of_ble_eq_true rfl) d_p15m39_157 (fun H locs w => ?_)
        have w : pd_w G s H locs (pd_up h11 y (20, .inr (10, [.ref (ad 0), .ref (ad 1), .ref (ad 2), .int (iv 3), .int (iv 4), .int (iv 5), .ref (ad 6), .ref (ad 7), .ref (ad 8), .ref (ad 9), .ref (ad 10), .ref (ad 11), .int (iv 12), .ref (ad 13), .ref (ad 14), .ref (ad 15), .ref (ad 16), .ref (ad 17), .ref (ad 18), .ref (ad 19), .int (iv 20), .ref (ad 21), .ref (ad 22), .ref (ad 23), .ref (ad 24), .ref (ad 25), .ref (ad 26), .ref (ad 27), .ref (ad 28), .int (iv 29), .ref (ad 30), .ref (ad 31), .int (iv 32), .int (iv 33), .int (nI (dn + 1)), .int (iv 35), .long tl, .int (iv 37), .int (iv 38), .int (iv 39), .int (iv 40), .ref (ad 41), .ref (ad 42), .int v17]))) := w
        obtain ⟨h94, u97⟩ : ∃ z, z = pd_up h11 y (20, .inr (10, [.ref (ad 0), .ref (ad 1), .ref (ad 2), .int (iv 3), .int (iv 4), .int (iv 5), .ref (ad 6), .ref (ad 7), .ref (ad 8), .ref (ad 9), .ref (ad 10), .ref (ad 11), .int (iv 12), .ref (ad 13), .ref (ad 14), .ref (ad 15), .ref (ad 16), .ref (ad 17), .ref (ad 18), .ref (ad 19), .int (iv 20), .ref (ad 21), .ref (ad 22), .ref (ad 23), .ref (ad 24), .ref (ad 25), .ref (ad 26), .ref (ad 27), .ref (ad 28), .int (iv 29), .ref (ad 30), .ref (ad 31), .int (iv 32), .int (iv 33), .int (nI (dn + 1)), .int (iv 35), .long tl, .int (iv 37), .int (iv 38), .int (iv 39), .int (iv 40), .ref (ad 41), .ref (ad 42), .int v17])) := ⟨_, rfl⟩
        rw [← u97] at w
        have k95 : pd_kq y h11 h94 := by rw [u97]; exact pd_up_kq
        have f96 : h94 y = some (20, .inr (10, [.ref (ad 0), .ref (ad 1), .ref (ad 2), .int (iv 3), .int (iv 4), .int (iv 5), .ref (ad 6), .ref (ad 7), .ref (ad 8), .ref (ad 9), .ref (ad 10), .ref (ad 11), .int (iv 12), .ref (ad 13), .ref (ad 14), .ref (ad 15), .ref (ad 16), .ref (ad 17), .ref (ad 18), .ref (ad 19), .int (iv 20), .ref (ad 21), .ref (ad 22), .ref (ad 23), .ref (ad 24), .ref (ad 25), .ref (ad 26), .ref (ad 27), .ref (ad 28), .int (iv 29), .ref (ad 30), .ref (ad 31), .int (iv 32), .int (iv 33), .int (nI (dn + 1)), .int (iv 35), .long tl, .int (iv 37), .int (iv 38), .int (iv 39), .int (iv 40), .ref (ad 41), .ref (ad 42), .int v17])) := by rw [u97]; exact pd_up_s _ _ _
        have f98 := k95 _ _ (pd_ne ha28 hy27 (by simp)) ha28
        have f99 := k95 _ _ (pd_ne ha29 hy27 (by simp)) ha29
        have f100 := k95 _ _ (pd_ne ha30 hy27 (by simp)) ha30
        have f101 := k95 _ _ (pd_ne ha31 hy27 (by simp)) ha31
        have f102 := k95 _ _ (pd_ne ha32 hy27 (by simp)) ha32
        have f103 := k95 _ _ (pd_ne ha33 hy27 (by simp)) ha33
        have f104 := k95 _ _ (pd_ne ha34 hy27 (by simp)) ha34
        have f105 := k95 _ _ (pd_ne ha35 hy27 (by simp)) ha35
        have f106 := k95 _ _ (pd_ne ha36 hy27 (by simp)) ha36
        have f107 := k95 _ _ (pd_ne ha37 hy27 (by simp)) ha37
        refine lv_sipush (v := nI 10000) hx hb d_p15m39_160 (by decide) ?_
        refine lv_aload_n hx hb d_p15m39_163 rfl (lv_at hl 3 rfl) ?_
        refine pd_get X w f96 rfl 28 (by decide) mT_1167 rfl rfl d_p15m39_164 ?_
        refine lv_iload hx hb d_p15m39_167 (lv_at hl 0 rfl) ?_
        refine pd_iald X w f105 (by omega) (by omega) d_p15m39_169 ?_
        refine pd_top (v' := .int (nI (gm_rn (U j49)))) (congrArg Value.int (hUu j49 (by omega)).2.2.2.2.2.2.2.2.2.1) ?_
        have hrn := (hUu j49 (by omega)).2.2.2.2.2.2.2.2.2.2
        refine pd_iadd hx hb d_p15m39_170 ?_
        have hsm : gr_shm R M u U 12 j40 = some j49 := by unfold gr_shm; rw [if_pos rfl]; exact e47.symm
        have hg : gr_jm n R k M u U cs 12 = (nI (10000 + gm_rn (U j49)), 1) := by unfold gr_jm; rw [← hbd]; simp only [e5.symm, e38.symm, hsm, hb9]; rw [hrb]
        have mo108 : pd_MO G h94 y ad (pd_fu (pd_fu fv 41 f15) 42 f16) (pd_fu (pd_fu iv 43 v17) 34 (nI (dn + 1))) tl := pd_MO.of (ts := [20]) f18 (pd_kq.kx (k95) hy27) f96 (fun j hj => Or.inr ⟨fun z => by first | (simp at z; done) | (simp at z; omega), rfl⟩)
        exact pd_iret (v := (nI (10000 + (gm_rn (U j49))))) X w ⟨by rw [hg], pd_kx.tr (k14) (pd_kx.mono (us := [20, 71, 72]) (pd_kq.kx (k95) hy27) (by simp)), f15, f16, v17, (by rw [hg]; exact pd_MO.ext mo108 (fun j9 hj9 => by by_cases e9 : j9 = 42; subst e9; rfl; by_cases e8 : j9 = 41; subst e8; rfl; simp only [pd_fu, if_neg e9, if_neg e8]) (rfl))⟩ (by decide) (by decide) d_p15m39_171
