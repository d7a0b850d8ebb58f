/-! patterns -/
def gr_reach (cs : List Nat) : Nat := if cs = [42, 42] then 0 else if gr_ew cs [47, 42, 42] = true then 1 else if gr_ew cs [47, 42] = true then 2 else 3
def gr_pnm (cs : List Nat) (k : Nat) : List Nat := if k = 0 then [] else if k = 1 then tx_sub cs 0 (cs.length - 3) else if k = 2 then tx_sub cs 0 (cs.length - 2) else cs
def gr_pat (cs : List Nat) : Bool := decide (¬ (¬ tx_ix cs 46 = none ∧ ¬ gr_ad cs = [42] ∧ gr_part (gr_ad cs) = false)) && (decide (gr_reach (gr_bd cs) = 0) || gr_name (gr_pnm (gr_bd cs) (gr_reach (gr_bd cs))))
theorem gr_reach_1 {cs : List Nat} (q : gr_reach cs = 1) : 3 ≤ cs.length := by
  unfold gr_reach at q
  split at q
  · cases q
  · split at q
    · rename_i z
      exact (of_decide_eq_true z).1
    · split at q <;> cases q
theorem gr_reach_2 {cs : List Nat} (q : gr_reach cs = 2) : 2 ≤ cs.length := by
  unfold gr_reach at q
  split at q
  · cases q
  · split at q
    · cases q
    · split at q
      · rename_i z
        exact (of_decide_eq_true z).1
      · cases q
theorem gr_reach_le (cs : List Nat) : gr_reach cs ≤ 3 := by
  unfold gr_reach
  split
  · decide
  · split
    · decide
    · split <;> decide
theorem d_p10m2_0 : decode prog_10_method_2_code 0 = .ok (.aload_n 0, 1) := by decide +kernel
theorem d_p10m2_1 : decode prog_10_method_2_code 1 = .ok (.ldc 59, 2) := by decide +kernel
theorem d_p10m2_3 : decode prog_10_method_2_code 3 = .ok (.invokevirtual 45, 3) := by decide +kernel
theorem d_p10m2_6 : decode prog_10_method_2_code 6 = .ok (.ifCond .eq 5, 3) := by decide +kernel
theorem d_p10m2_9 : decode prog_10_method_2_code 9 = .ok (.iconst 0, 1) := by decide +kernel
theorem d_p10m2_10 : decode prog_10_method_2_code 10 = .ok (.ireturn, 1) := by decide +kernel
theorem d_p10m2_11 : decode prog_10_method_2_code 11 = .ok (.aload_n 0, 1) := by decide +kernel
theorem d_p10m2_12 : decode prog_10_method_2_code 12 = .ok (.ldc 61, 2) := by decide +kernel
theorem d_p10m2_14 : decode prog_10_method_2_code 14 = .ok (.invokestatic 63, 3) := by decide +kernel
theorem d_p10m2_17 : decode prog_10_method_2_code 17 = .ok (.ifCond .eq 5, 3) := by decide +kernel
theorem d_p10m2_20 : decode prog_10_method_2_code 20 = .ok (.iconst 1, 1) := by decide +kernel
theorem d_p10m2_21 : decode prog_10_method_2_code 21 = .ok (.ireturn, 1) := by decide +kernel
theorem d_p10m2_22 : decode prog_10_method_2_code 22 = .ok (.aload_n 0, 1) := by decide +kernel
theorem d_p10m2_23 : decode prog_10_method_2_code 23 = .ok (.ldc 67, 2) := by decide +kernel
theorem d_p10m2_25 : decode prog_10_method_2_code 25 = .ok (.invokestatic 63, 3) := by decide +kernel
theorem d_p10m2_28 : decode prog_10_method_2_code 28 = .ok (.ifCond .eq 7, 3) := by decide +kernel
theorem d_p10m2_31 : decode prog_10_method_2_code 31 = .ok (.iconst 2, 1) := by decide +kernel
theorem d_p10m2_32 : decode prog_10_method_2_code 32 = .ok (.goto 4, 3) := by decide +kernel
theorem d_p10m2_35 : decode prog_10_method_2_code 35 = .ok (.iconst 3, 1) := by decide +kernel
theorem d_p10m2_36 : decode prog_10_method_2_code 36 = .ok (.ireturn, 1) := by decide +kernel
abbrev y_Pattern_reachOf : MethodName := ⟨"PolicyDesk$Pattern", "reachOf", "(Ljava/lang/String;)I"⟩
theorem ok_Pattern_reachOf : pd_ok y_Pattern_reachOf prog_10_method_2_code 1 (some .int) 1 := ⟨mT_749, mT_28, by decide, by decide +kernel⟩
abbrev rm_Pattern_reachOf : Room := { frames := 7, cells := 4, slots := 128, locals := 174 }
set_option maxHeartbeats 4000000 in
set_option maxRecDepth 100000 in
theorem c_Pattern_reachOf (l : Launch) (G : pd_G) (h : pd_H) {a : Nat} {cs : List Nat} (hS : pd_Str h a cs) : pd_M l y_Pattern_reachOf prog_10_method_2_code 1 (some .int) rm_Pattern_reachOf G h [.ref a] pd_vn (fun r h1 => r = gr_reach cs ∧ pd_kx [] h h1) := by
  refine pd_M.of (by decide) (Nat.le_of_ble_eq_true rfl) ?_
  intro p e s m below meth c X hmn w ls hl
  have hx := X.1
  have hb := X.2.1
  have hl : lv_has ls 1 [(0, .ref a)] := hl
  obtain ⟨v1, f1, hv1, hv2, hvf, hvc, hvl⟩ := id hS
  refine lv_aload_n hx hb d_p10m2_0 rfl (lv_at hl 0 rfl) ?_
  refine pd_ldc X (List.mem_of_getElem? (i := 13) rfl) d_p10m2_1 ?_
  have L1 : pd_Str h (G.2.2.2 53) [42, 42] := pd_litS X w 13 (by decide)
  obtain ⟨v2, g3, f4, f5, gf6, gc7, gl8⟩ := id L1
  refine pd_cV (a := a) (As := [.ref (G.2.2.2 53)]) (rest := []) X w hv1 rfl (c_String_equals l G h (by assumption) (by assumption)) ok_String_equals ⟨mT_613, mT_614⟩ mT_751 ⟨by decide, by decide⟩ rfl hl.1 rfl (Nat.le_of_ble_eq_true rfl) d_p10m2_3 ⟨by decide, by decide⟩ (fun r9 h10 H locs hp11 w => ?_)
  refine W.widen (k := 0) (n := 0) (by decide) (by decide) ?_
  obtain ⟨e12, rfl⟩ := hp11
  refine pd_beq (tgt := 11) hx hb d_p10m2_6 (by decide) (fun q13 => ?_) (fun q13 => ?_)
  · -- taken: 11
    refine lv_aload_n hx hb d_p10m2_11 rfl (lv_at hl 0 rfl) ?_
    refine pd_ldc X (List.mem_of_getElem? (i := 14) rfl) d_p10m2_12 ?_
    have L14 : pd_Str h (G.2.2.2 54) [47, 42, 42] := pd_litS X w 14 (by decide)
    obtain ⟨v15, g16, f17, f18, gf19, gc20, gl21⟩ := id L14
    refine pd_cS (As := [.ref a, .ref (G.2.2.2 54)]) (rest := []) X w (c_Grammar_endsWith l G h (by assumption) (by assumption)) ok_Grammar_endsWith mT_754 mT_753 ⟨by decide, by decide⟩ rfl hl.1 rfl (Nat.le_of_ble_eq_true rfl) d_p10m2_14 ⟨by decide, by decide⟩ (fun r22 h23 H locs hp24 w => ?_)
    refine W.widen (k := 2) (n := 64) (by decide) (by decide) ?_
    obtain ⟨e25, k26⟩ := hp24
    have f27 := k26 _ _ hv1 List.not_mem_nil
    have f28 := k26 _ _ f4 List.not_mem_nil
    have f29 := k26 _ _ f17 List.not_mem_nil
    have f30 := k26 _ _ hv2 List.not_mem_nil
    have f31 := hS.kx k26 List.not_mem_nil
    have f32 := L1.kx k26 List.not_mem_nil
    have f33 := L14.kx k26 List.not_mem_nil
    refine pd_beq (tgt := 22) hx hb d_p10m2_17 (by decide) (fun q34 => ?_) (fun q34 => ?_)
    · -- taken: 22
      refine lv_aload_n hx hb d_p10m2_22 rfl (lv_at hl 0 rfl) ?_
      refine pd_ldc X (List.mem_of_getElem? (i := 15) rfl) d_p10m2_23 ?_
      have L35 : pd_Str h23 (G.2.2.2 55) [47, 42] := pd_litS X w 15 (by decide)
      obtain ⟨v36, g37, f38, f39, gf40, gc41, gl42⟩ := id L35
      refine pd_cS (As := [.ref a, .ref (G.2.2.2 55)]) (rest := []) X w (c_Grammar_endsWith l G h23 (by assumption) (by assumption)) ok_Grammar_endsWith mT_754 mT_753 ⟨by decide, by decide⟩ rfl hl.1 rfl (Nat.le_of_ble_eq_true rfl) d_p10m2_25 ⟨by decide, by decide⟩ (fun r43 h44 H locs hp45 w => ?_)
      refine W.widen (k := 4) (n := 128) (by decide) (by decide) ?_
      obtain ⟨e46, k47⟩ := hp45
      have f48 := k47 _ _ f27 List.not_mem_nil
      have f49 := k47 _ _ f28 List.not_mem_nil
      have f50 := k47 _ _ f29 List.not_mem_nil
      have f51 := k47 _ _ f38 List.not_mem_nil
      have f52 := k47 _ _ f30 List.not_mem_nil
      have f53 := f31.kx k47 List.not_mem_nil
      have f54 := f32.kx k47 List.not_mem_nil
      have f55 := f33.kx k47 List.not_mem_nil
      have f56 := L35.kx k47 List.not_mem_nil
      refine pd_beq (tgt := 35) hx hb d_p10m2_28 (by decide) (fun q57 => ?_) (fun q57 => ?_)
      · -- taken: 35
        refine lv_iconst (v := nI 3) hx hb d_p10m2_35 (by decide) ?_
        exact pd_nret (v := 3) X w ⟨((if_neg (of_decide_eq_false (e12.symm.trans q13))).trans ((if_neg (by rw [e25.symm.trans q34]; decide)).trans (if_neg (by rw [e46.symm.trans q57]; decide)))).symm, pd_kx.tr (k26) (k47)⟩ (by decide) (by decide) d_p10m2_36
      · -- not taken: 31
        refine lv_iconst (v := nI 2) hx hb d_p10m2_31 (by decide) ?_
        refine lv_goto (tgt := 36) hx hb d_p10m2_32 (by decide) ?_
        exact pd_nret (v := 2) X w ⟨((if_neg (of_decide_eq_false (e12.symm.trans q13))).trans ((if_neg (by rw [e25.symm.trans q34]; decide)).trans (if_pos (e46.symm.trans q57)))).symm, pd_kx.tr (k26) (k47)⟩ (by decide) (by decide) d_p10m2_36
    · -- not taken: 20
      refine lv_iconst (v := nI 1) hx hb d_p10m2_20 (by decide) ?_
      exact pd_nret (v := 1) X w ⟨((if_neg (of_decide_eq_false (e12.symm.trans q13))).trans (if_pos (e25.symm.trans q34))).symm, k26⟩ (by decide) (by decide) d_p10m2_21
  · -- not taken: 9
    refine lv_iconst (v := nI 0) hx hb d_p10m2_9 (by decide) ?_
    exact pd_nret (v := 0) X w ⟨(if_pos (of_decide_eq_true (e12.symm.trans q13))).symm, pd_kx.rf⟩ (by decide) (by decide) d_p10m2_10
