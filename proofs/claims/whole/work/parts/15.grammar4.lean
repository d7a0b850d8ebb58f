/-! patterns -/
def gr_reach (cs : List Nat) : Nat := if cs = [42, 42] then 0 else if gr_ew cs [47, 42, 42] = true then 1 else if gr_ew cs [47, 42] = true then 2 else 3
def gr_pnm (cs : List Nat) (k : Nat) : List Nat := if k = 0 then [] else if k = 1 then tx_sub cs 0 (cs.length - 3) else if k = 2 then tx_sub cs 0 (cs.length - 2) else cs
def gr_pat (cs : List Nat) : Bool := decide (¬ (¬ tx_ix cs 46 = none ∧ ¬ gr_ad cs = [42] ∧ gr_part (gr_ad cs) = false)) && (decide (gr_reach (gr_bd cs) = 0) || gr_name (gr_pnm (gr_bd cs) (gr_reach (gr_bd cs))))
theorem gr_reach_1 {cs : List Nat} (q : gr_reach cs = 1) : 3 ≤ cs.length := by
  unfold gr_reach at q
  split at q
  · cases q
  · split at q
    · rename_i z
      exact (of_decide_eq_true z).1
    · split at q <;> cases q
theorem gr_reach_2 {cs : List Nat} (q : gr_reach cs = 2) : 2 ≤ cs.length := by
  unfold gr_reach at q
  split at q
  · cases q
  · split at q
    · cases q
    · split at q
      · rename_i z
        exact (of_decide_eq_true z).1
      · cases q
theorem gr_reach_le (cs : List Nat) : gr_reach cs ≤ 3 := by
  unfold gr_reach
  split
  · decide
  · split
    · decide
    · split <;> decide
theorem d_p10m2_0 : decode prog_10_method_2_code 0 = .ok (.aload_n 0, 1) := by decide +kernel
theorem d_p10m2_1 : decode prog_10_method_2_code 1 = .ok (.ldc 59, 2) := by decide +kernel
theorem d_p10m2_3 : decode prog_10_method_2_code 3 = .ok (.invokevirtual 45, 3) := by decide +kernel
theorem d_p10m2_6 : decode prog_10_method_2_code 6 = .ok (.ifCond .eq 5, 3) := by decide +kernel
theorem d_p10m2_9 : decode prog_10_method_2_code 9 = .ok (.iconst 0, 1) := by decide +kernel
theorem d_p10m2_10 : decode prog_10_method_2_code 10 = .ok (.ireturn, 1) := by decide +kernel
theorem d_p10m2_11 : decode prog_10_method_2_code 11 = .ok (.aload_n 0, 1) := by decide +kernel
theorem d_p10m2_12 : decode prog_10_method_2_code 12 = .ok (.ldc 61, 2) := by decide +kernel
theorem d_p10m2_14 : decode prog_10_method_2_code 14 = .ok (.invokestatic 63, 3) := by decide +kernel
theorem d_p10m2_17 : decode prog_10_method_2_code 17 = .ok (.ifCond .eq 5, 3) := by decide +kernel
theorem d_p10m2_20 : decode prog_10_method_2_code 20 = .ok (.iconst 1, 1) := by decide +kernel
theorem d_p10m2_21 : decode prog_10_method_2_code 21 = .ok (.ireturn, 1) := by decide +kernel
theorem d_p10m2_22 : decode prog_10_method_2_code 22 = .ok (.aload_n 0, 1) := by decide +kernel
theorem d_p10m2_23 : decode prog_10_method_2_code 23 = .ok (.ldc 67, 2) := by decide +kernel
theorem d_p10m2_25 : decode prog_10_method_2_code 25 = .ok (.invokestatic 63, 3) := by decide +kernel
theorem d_p10m2_28 : decode prog_10_method_2_code 28 = .ok (.ifCond .eq 7, 3) := by decide +kernel
theorem d_p10m2_31 : decode prog_10_method_2_code 31 = .ok (.iconst 2, 1) := by decide +kernel
theorem d_p10m2_32 : decode prog_10_method_2_code 32 = .ok (.goto 4, 3) := by decide +kernel
theorem d_p10m2_35 : decode prog_10_method_2_code 35 = .ok (.iconst 3, 1) := by decide +kernel
theorem d_p10m2_36 : decode prog_10_method_2_code 36 = .ok (.ireturn, 1) := by decide +kernel
abbrev y_Pattern_reachOf : MethodName := ⟨"PolicyDesk$Pattern", "reachOf", "(Ljava/lang/String;)I"⟩
theorem ok_Pattern_reachOf : pd_ok y_Pattern_reachOf prog_10_method_2_code 1 (some .int) 1 := ⟨mT_749, mT_28, by decide, by decide +kernel⟩
abbrev rm_Pattern_reachOf : Room := { frames := 7, cells := 4, slots := 128, locals := 174 }
set_option maxHeartbeats 4000000 in
set_option maxRecDepth 100000 in
theorem c_Pattern_reachOf (l : Launch) (G : pd_G) (h : pd_H) {a : Nat} {cs : List Nat} (hS : pd_Str h a cs) : pd_M l y_Pattern_reachOf prog_10_method_2_code 1 (some .int) rm_Pattern_reachOf G h [.ref a] pd_vn (fun r h1 => r = gr_reach cs ∧ pd_kx [] h h1) := by
  refine pd_M.of (by decide) (Nat.le_of_ble_eq_true rfl) ?_
  intro p e s m below meth c X hmn w ls hl
  have hx := X.1
  have hb := X.2.1
  have hl : lv_has ls 1 [(0, .ref a)] := hl
  obtain ⟨v1, f1, hv1, hv2, hvf, hvc, hvl⟩ := id hS
  refine lv_aload_n hx hb d_p10m2_0 rfl (lv_at hl 0 rfl) ?_
  refine pd_ldc X (List.mem_of_getElem? (i := 13) rfl) d_p10m2_1 ?_
  have L1 : pd_Str h (G.2.2.2 53) [42, 42] := pd_litS X w 13 (by decide)
  obtain ⟨v2, g3, f4, f5, gf6, gc7, gl8⟩ := id L1
  refine pd_cV (a := a) (As := [.ref (G.2.2.2 53)]) (rest := []) X w hv1 rfl (c_String_equals l G h (by assumption) (by assumption)) ok_String_equals ⟨mT_613, mT_614⟩ mT_751 ⟨by decide, by decide⟩ rfl hl.1 rfl (Nat.le_of_ble_eq_true rfl) d_p10m2_3 ⟨by decide, by decide⟩ (fun r9 h10 H locs hp11 w => ?_)
  refine W.widen (k := 0) (n := 0) (by decide) (by decide) ?_
  obtain ⟨e12, rfl⟩ := hp11
  refine pd_beq (tgt := 11) hx hb d_p10m2_6 (by decide) (fun q13 => ?_) (fun q13 => ?_)
  · -- taken: 11
    refine lv_aload_n hx hb d_p10m2_11 rfl (lv_at hl 0 rfl) ?_
    refine pd_ldc X (List.mem_of_getElem? (i := 14) rfl) d_p10m2_12 ?_
    have L14 : pd_Str h (G.2.2.2 54) [47, 42, 42] := pd_litS X w 14 (by decide)
    obtain ⟨v15, g16, f17, f18, gf19, gc20, gl21⟩ := id L14
    refine pd_cS (As := [.ref a, .ref (G.2.2.2 54)]) (rest := []) X w (c_Grammar_endsWith l G h (by assumption) (by assumption)) ok_Grammar_endsWith mT_754 mT_753 ⟨by decide, by decide⟩ rfl hl.1 rfl (Nat.le_of_ble_eq_true rfl) d_p10m2_14 ⟨by decide, by decide⟩ (fun r22 h23 H locs hp24 w => ?_)
    refine W.widen (k := 2) (n := 64) (by decide) (by decide) ?_
    obtain ⟨e25, k26⟩ := hp24
    have f27 := k26 _ _ hv1 List.not_mem_nil
    have f28 := k26 _ _ f4 List.not_mem_nil
    have f29 := k26 _ _ f17 List.not_mem_nil
    have f30 := k26 _ _ hv2 List.not_mem_nil
    have f31 := k26 _ _ f5 List.not_mem_nil
    have f32 := k26 _ _ f18 List.not_mem_nil
    have f33 := hS.kx k26 List.not_mem_nil
    have f34 := L1.kx k26 List.not_mem_nil
    have f35 := L14.kx k26 List.not_mem_nil
    refine pd_beq (tgt := 22) hx hb d_p10m2_17 (by decide) (fun q36 => ?_) (fun q36 => ?_)
    · -- taken: 22
      refine lv_aload_n hx hb d_p10m2_22 rfl (lv_at hl 0 rfl) ?_
      refine pd_ldc X (List.mem_of_getElem? (i := 15) rfl) d_p10m2_23 ?_
      have L37 : pd_Str h23 (G.2.2.2 55) [47, 42] := pd_litS X w 15 (by decide)
      obtain ⟨v38, g39, f40, f41, gf42, gc43, gl44⟩ := id L37
      refine pd_cS (As := [.ref a, .ref (G.2.2.2 55)]) (rest := []) X w (c_Grammar_endsWith l G h23 (by assumption) (by assumption)) ok_Grammar_endsWith mT_754 mT_753 ⟨by decide, by decide⟩ rfl hl.1 rfl (Nat.le_of_ble_eq_true rfl) d_p10m2_25 ⟨by decide, by decide⟩ (fun r45 h46 H locs hp47 w => ?_)
      refine W.widen (k := 4) (n := 128) (by decide) (by decide) ?_
      obtain ⟨e48, k49⟩ := hp47
      have f50 := k49 _ _ f27 List.not_mem_nil
      have f51 := k49 _ _ f28 List.not_mem_nil
      have f52 := k49 _ _ f29 List.not_mem_nil
      have f53 := k49 _ _ f40 List.not_mem_nil
      have f54 := k49 _ _ f30 List.not_mem_nil
      have f55 := k49 _ _ f31 List.not_mem_nil
      have f56 := k49 _ _ f32 List.not_mem_nil
      have f57 := k49 _ _ f41 List.not_mem_nil
      have f58 := f33.kx k49 List.not_mem_nil
      have f59 := f34.kx k49 List.not_mem_nil
      have f60 := f35.kx k49 List.not_mem_nil
      have f61 := L37.kx k49 List.not_mem_nil
      refine pd_beq (tgt := 35) hx hb d_p10m2_28 (by decide) (fun q62 => ?_) (fun q62 => ?_)
      · -- taken: 35
        refine lv_iconst (v := nI 3) hx hb d_p10m2_35 (by decide) ?_
        exact pd_nret (v := 3) X w ⟨((if_neg (of_decide_eq_false (e12.symm.trans q13))).trans ((if_neg (by rw [e25.symm.trans q36]; decide)).trans (if_neg (by rw [e48.symm.trans q62]; decide)))).symm, pd_kx.tr (k26) (k49)⟩ (by decide) (by decide) d_p10m2_36
      · -- not taken: 31
        refine lv_iconst (v := nI 2) hx hb d_p10m2_31 (by decide) ?_
        refine lv_goto (tgt := 36) hx hb d_p10m2_32 (by decide) ?_
        exact pd_nret (v := 2) X w ⟨((if_neg (of_decide_eq_false (e12.symm.trans q13))).trans ((if_neg (by rw [e25.symm.trans q36]; decide)).trans (if_pos (e48.symm.trans q62)))).symm, pd_kx.tr (k26) (k49)⟩ (by decide) (by decide) d_p10m2_36
    · -- not taken: 20
      refine lv_iconst (v := nI 1) hx hb d_p10m2_20 (by decide) ?_
      exact pd_nret (v := 1) X w ⟨((if_neg (of_decide_eq_false (e12.symm.trans q13))).trans (if_pos (e25.symm.trans q36))).symm, k26⟩ (by decide) (by decide) d_p10m2_21
  · -- not taken: 9
    refine lv_iconst (v := nI 0) hx hb d_p10m2_9 (by decide) ?_
    exact pd_nret (v := 0) X w ⟨(if_pos (of_decide_eq_true (e12.symm.trans q13))).symm, pd_kx.rf⟩ (by decide) (by decide) d_p10m2_10
theorem d_p10m3_0 : decode prog_10_method_3_code 0 = .ok (.iload_n 1, 1) := by decide +kernel
theorem d_p10m3_1 : decode prog_10_method_3_code 1 = .ok (.tableswitch 54 0 2 #[27, 30, 42], 27) := by decide +kernel
theorem d_p10m3_28 : decode prog_10_method_3_code 28 = .ok (.ldc 69, 2) := by decide +kernel
theorem d_p10m3_30 : decode prog_10_method_3_code 30 = .ok (.areturn, 1) := by decide +kernel
theorem d_p10m3_31 : decode prog_10_method_3_code 31 = .ok (.aload_n 0, 1) := by decide +kernel
theorem d_p10m3_32 : decode prog_10_method_3_code 32 = .ok (.iconst 0, 1) := by decide +kernel
theorem d_p10m3_33 : decode prog_10_method_3_code 33 = .ok (.aload_n 0, 1) := by decide +kernel
theorem d_p10m3_34 : decode prog_10_method_3_code 34 = .ok (.invokevirtual 52, 3) := by decide +kernel
theorem d_p10m3_37 : decode prog_10_method_3_code 37 = .ok (.iconst 3, 1) := by decide +kernel
theorem d_p10m3_38 : decode prog_10_method_3_code 38 = .ok (.isub, 1) := by decide +kernel
theorem d_p10m3_39 : decode prog_10_method_3_code 39 = .ok (.invokevirtual 71, 3) := by decide +kernel
theorem d_p10m3_42 : decode prog_10_method_3_code 42 = .ok (.areturn, 1) := by decide +kernel
theorem d_p10m3_43 : decode prog_10_method_3_code 43 = .ok (.aload_n 0, 1) := by decide +kernel
theorem d_p10m3_44 : decode prog_10_method_3_code 44 = .ok (.iconst 0, 1) := by decide +kernel
theorem d_p10m3_45 : decode prog_10_method_3_code 45 = .ok (.aload_n 0, 1) := by decide +kernel
theorem d_p10m3_46 : decode prog_10_method_3_code 46 = .ok (.invokevirtual 52, 3) := by decide +kernel
theorem d_p10m3_49 : decode prog_10_method_3_code 49 = .ok (.iconst 2, 1) := by decide +kernel
theorem d_p10m3_50 : decode prog_10_method_3_code 50 = .ok (.isub, 1) := by decide +kernel
theorem d_p10m3_51 : decode prog_10_method_3_code 51 = .ok (.invokevirtual 71, 3) := by decide +kernel
theorem d_p10m3_54 : decode prog_10_method_3_code 54 = .ok (.areturn, 1) := by decide +kernel
theorem d_p10m3_55 : decode prog_10_method_3_code 55 = .ok (.aload_n 0, 1) := by decide +kernel
theorem d_p10m3_56 : decode prog_10_method_3_code 56 = .ok (.areturn, 1) := by decide +kernel
abbrev y_Pattern_nameOf : MethodName := ⟨"PolicyDesk$Pattern", "nameOf", "(Ljava/lang/String;I)Ljava/lang/String;"⟩
theorem ok_Pattern_nameOf : pd_ok y_Pattern_nameOf prog_10_method_3_code 2 (some (.object "java/lang/String")) 2 := ⟨mT_759, mT_28, by decide, by decide +kernel⟩
abbrev rm_Pattern_nameOf : Room := { frames := 5, cells := 2, slots := 64, locals := 132 }
set_option maxHeartbeats 4000000 in
set_option maxRecDepth 100000 in
theorem c_Pattern_nameOf (l : Launch) (G : pd_G) (h : pd_H) {a : Nat} {cs : List Nat} {k : Nat} (hS : pd_Str h a cs) (hk3 : k ≤ 3) (hk1 : k = 1 → 3 ≤ cs.length) (hk2 : k = 2 → 2 ≤ cs.length) : pd_M l y_Pattern_nameOf prog_10_method_3_code 2 (some (.object "java/lang/String")) rm_Pattern_nameOf G h [.ref a, .int (nI k)] Value.ref (fun r h1 => pd_kx [] h h1 ∧ ∃ ds, ds = gr_pnm cs k ∧ pd_Str h1 r ds) := by
  refine pd_M.of (by decide) (Nat.le_of_ble_eq_true rfl) ?_
  intro p e s m below meth c X hmn w ls hl
  have hx := X.1
  have hb := X.2.1
  have hl : lv_has ls 2 [(0, .ref a), (1, .int (nI k))] := hl
  obtain ⟨v1, f1, hv1, hv2, hvf, hvc, hvl⟩ := id hS
  refine lv_iload_n hx hb d_p10m3_0 rfl (lv_at hl 1 rfl) ?_
  rcases (show k = 0 ∨ k = 1 ∨ k = 2 ∨ 2 < k by omega) with z1 | z1 | z1 | z1
  · -- case 0: 28
    refine lv_tableIn (tgt := 28) hx hb d_p10m3_1 (by rw [z1]; decide) (by rw [z1]; decide) (by rw [z1]; rfl) (by decide) ?_
    refine pd_ldc X (List.mem_of_getElem? (i := 16) rfl) d_p10m3_28 ?_
    have L2 : pd_Str h (G.2.2.2 56) [] := pd_litS X w 16 (by decide)
    obtain ⟨v3, g4, f5, f6, gf7, gc8, gl9⟩ := id L2
    exact pd_aret (v := (G.2.2.2 56)) X (Or.inl ⟨_, rfl⟩) w ⟨pd_kx.rf, _, (by unfold gr_pnm; rw [if_pos z1]), by assumption⟩ (by decide) (by decide) d_p10m3_30
  · -- case 1: 31
    refine lv_tableIn (tgt := 31) hx hb d_p10m3_1 (by rw [z1]; decide) (by rw [z1]; decide) (by rw [z1]; rfl) (by decide) ?_
    refine lv_aload_n hx hb d_p10m3_31 rfl (lv_at hl 0 rfl) ?_
    refine lv_iconst (v := nI 0) hx hb d_p10m3_32 (by decide) ?_
    refine lv_aload_n hx hb d_p10m3_33 rfl (lv_at hl 0 rfl) ?_
    refine pd_cV (a := a) (As := []) (rest := [.int (nI 0), .ref a]) X w hv1 rfl (c_String_length l G h (by assumption)) ok_String_length ⟨mT_93, mT_94⟩ mT_761 ⟨by decide, by decide⟩ rfl hl.1 rfl (Nat.le_of_ble_eq_true rfl) d_p10m3_34 ⟨by decide, by decide⟩ (fun r10 h11 H locs hp12 w => ?_)
    refine W.widen (k := 0) (n := 0) (by decide) (by decide) ?_
    obtain ⟨e13, rfl⟩ := hp12
    refine lv_iconst (v := nI 3) hx hb d_p10m3_37 (by decide) ?_
    refine pd_isub hx hb d_p10m3_38 (by omega) ?_
    refine pd_cV (a := a) (As := [.int (nI 0), .int (nI (r10 - 3))]) (rest := []) X w hv1 rfl (c_String_substring2 l G h (by assumption) (by omega) (by omega)) ok_String_substring2 ⟨mT_579, mT_580⟩ mT_762 ⟨by decide, by decide⟩ rfl hl.1 rfl (Nat.le_of_ble_eq_true rfl) d_p10m3_39 ⟨by decide, by decide⟩ (fun r14 h15 H locs hp16 w => ?_)
    refine W.widen (k := 2) (n := 64) (by decide) (by decide) ?_
    obtain ⟨k17, ds18, e19, f20⟩ := hp16
    have f28 := k17 _ _ hv1 List.not_mem_nil
    have f29 := k17 _ _ hv2 List.not_mem_nil
    have f30 := hS.kx k17 List.not_mem_nil
    obtain ⟨v21, g22, f23, f24, gf25, gc26, gl27⟩ := id f20
    exact pd_aret (v := r14) X (Or.inl ⟨_, rfl⟩) w ⟨k17, _, (by unfold gr_pnm; rw [if_neg (by omega), if_pos z1, e19, e13]), f20⟩ (by decide) (by decide) d_p10m3_42
  · -- case 2: 43
    refine lv_tableIn (tgt := 43) hx hb d_p10m3_1 (by rw [z1]; decide) (by rw [z1]; decide) (by rw [z1]; rfl) (by decide) ?_
    refine lv_aload_n hx hb d_p10m3_43 rfl (lv_at hl 0 rfl) ?_
    refine lv_iconst (v := nI 0) hx hb d_p10m3_44 (by decide) ?_
    refine lv_aload_n hx hb d_p10m3_45 rfl (lv_at hl 0 rfl) ?_
    refine pd_cV (a := a) (As := []) (rest := [.int (nI 0), .ref a]) X w hv1 rfl (c_String_length l G h (by assumption)) ok_String_length ⟨mT_93, mT_94⟩ mT_761 ⟨by decide, by decide⟩ rfl hl.1 rfl (Nat.le_of_ble_eq_true rfl) d_p10m3_46 ⟨by decide, by decide⟩ (fun r31 h32 H locs hp33 w => ?_)
    refine W.widen (k := 0) (n := 0) (by decide) (by decide) ?_
    obtain ⟨e34, rfl⟩ := hp33
    refine lv_iconst (v := nI 2) hx hb d_p10m3_49 (by decide) ?_
    refine pd_isub hx hb d_p10m3_50 (by omega) ?_
    refine pd_cV (a := a) (As := [.int (nI 0), .int (nI (r31 - 2))]) (rest := []) X w hv1 rfl (c_String_substring2 l G h (by assumption) (by omega) (by omega)) ok_String_substring2 ⟨mT_579, mT_580⟩ mT_762 ⟨by decide, by decide⟩ rfl hl.1 rfl (Nat.le_of_ble_eq_true rfl) d_p10m3_51 ⟨by decide, by decide⟩ (fun r35 h36 H locs hp37 w => ?_)
    refine W.widen (k := 2) (n := 64) (by decide) (by decide) ?_
    obtain ⟨k38, ds39, e40, f41⟩ := hp37
    have f49 := k38 _ _ hv1 List.not_mem_nil
    have f50 := k38 _ _ hv2 List.not_mem_nil
    have f51 := hS.kx k38 List.not_mem_nil
    obtain ⟨v42, g43, f44, f45, gf46, gc47, gl48⟩ := id f41
    exact pd_aret (v := r35) X (Or.inl ⟨_, rfl⟩) w ⟨k38, _, (by unfold gr_pnm; rw [if_neg (by omega), if_neg (by omega), if_pos z1, e40, e34]), f41⟩ (by decide) (by decide) d_p10m3_54
  · -- default: 55
    refine lv_tableOut (tgt := 55) hx hb d_p10m3_1 (Or.inr (by rw [nI_toInt (by omega)]; omega)) (by decide) ?_
    refine lv_aload_n hx hb d_p10m3_55 rfl (lv_at hl 0 rfl) ?_
    exact pd_aret (v := a) X (Or.inl ⟨_, rfl⟩) w ⟨pd_kx.rf, _, (by unfold gr_pnm; rw [if_neg (by omega), if_neg (by omega), if_neg (by omega)]), by assumption⟩ (by decide) (by decide) d_p10m3_56
theorem gr_pat_f {cs : List Nat} (q : ¬ tx_ix cs 46 = none ∧ ¬ gr_ad cs = [42] ∧ gr_part (gr_ad cs) = false) : gr_pat cs = false := by
  unfold gr_pat
  rw [decide_eq_false (fun z => z q)]
  rfl
theorem gr_pat_0 {cs : List Nat} (q : ¬ (¬ tx_ix cs 46 = none ∧ ¬ gr_ad cs = [42] ∧ gr_part (gr_ad cs) = false)) (h0 : gr_reach (gr_bd cs) = 0) : gr_pat cs = true := by
  unfold gr_pat
  rw [decide_eq_true q, decide_eq_true h0]
  rfl
theorem gr_pat_n {cs : List Nat} {b : Bool} (q : ¬ (¬ tx_ix cs 46 = none ∧ ¬ gr_ad cs = [42] ∧ gr_part (gr_ad cs) = false)) (h0 : ¬ gr_reach (gr_bd cs) = 0) (hb : gr_name (gr_pnm (gr_bd cs) (gr_reach (gr_bd cs))) = b) : gr_pat cs = b := by
  unfold gr_pat
  rw [decide_eq_true q, decide_eq_false h0, hb]
  rfl
theorem d_p6m11_0 : decode prog_6_method_11_code 0 = .ok (.aload_n 0, 1) := by decide +kernel
theorem d_p6m11_1 : decode prog_6_method_11_code 1 = .ok (.invokestatic 96, 3) := by decide +kernel
theorem d_p6m11_4 : decode prog_6_method_11_code 4 = .ok (.astore_n 1, 1) := by decide +kernel
theorem d_p6m11_5 : decode prog_6_method_11_code 5 = .ok (.aload_n 0, 1) := by decide +kernel
theorem d_p6m11_6 : decode prog_6_method_11_code 6 = .ok (.bipush 46, 2) := by decide +kernel
theorem d_p6m11_8 : decode prog_6_method_11_code 8 = .ok (.invokevirtual 84, 3) := by decide +kernel
theorem d_p6m11_11 : decode prog_6_method_11_code 11 = .ok (.ifCond .lt 21, 3) := by decide +kernel
theorem d_p6m11_14 : decode prog_6_method_11_code 14 = .ok (.aload_n 1, 1) := by decide +kernel
theorem d_p6m11_15 : decode prog_6_method_11_code 15 = .ok (.ldc 106, 2) := by decide +kernel
theorem d_p6m11_17 : decode prog_6_method_11_code 17 = .ok (.invokevirtual 60, 3) := by decide +kernel
theorem d_p6m11_20 : decode prog_6_method_11_code 20 = .ok (.ifCond .ne 12, 3) := by decide +kernel
theorem d_p6m11_23 : decode prog_6_method_11_code 23 = .ok (.aload_n 1, 1) := by decide +kernel
theorem d_p6m11_24 : decode prog_6_method_11_code 24 = .ok (.invokestatic 100, 3) := by decide +kernel
theorem d_p6m11_27 : decode prog_6_method_11_code 27 = .ok (.ifCond .ne 5, 3) := by decide +kernel
theorem d_p6m11_30 : decode prog_6_method_11_code 30 = .ok (.iconst 0, 1) := by decide +kernel
theorem d_p6m11_31 : decode prog_6_method_11_code 31 = .ok (.ireturn, 1) := by decide +kernel
theorem d_p6m11_32 : decode prog_6_method_11_code 32 = .ok (.aload_n 0, 1) := by decide +kernel
theorem d_p6m11_33 : decode prog_6_method_11_code 33 = .ok (.invokestatic 103, 3) := by decide +kernel
theorem d_p6m11_36 : decode prog_6_method_11_code 36 = .ok (.astore_n 2, 1) := by decide +kernel
theorem d_p6m11_37 : decode prog_6_method_11_code 37 = .ok (.aload_n 2, 1) := by decide +kernel
theorem d_p6m11_38 : decode prog_6_method_11_code 38 = .ok (.invokestatic 108, 3) := by decide +kernel
theorem d_p6m11_41 : decode prog_6_method_11_code 41 = .ok (.istore_n 3, 1) := by decide +kernel
theorem d_p6m11_42 : decode prog_6_method_11_code 42 = .ok (.iload_n 3, 1) := by decide +kernel
theorem d_p6m11_43 : decode prog_6_method_11_code 43 = .ok (.ifCond .eq 14, 3) := by decide +kernel
theorem d_p6m11_46 : decode prog_6_method_11_code 46 = .ok (.aload_n 2, 1) := by decide +kernel
theorem d_p6m11_47 : decode prog_6_method_11_code 47 = .ok (.iload_n 3, 1) := by decide +kernel
theorem d_p6m11_48 : decode prog_6_method_11_code 48 = .ok (.invokestatic 114, 3) := by decide +kernel
theorem d_p6m11_51 : decode prog_6_method_11_code 51 = .ok (.invokestatic 55, 3) := by decide +kernel
theorem d_p6m11_54 : decode prog_6_method_11_code 54 = .ok (.ifCond .eq 7, 3) := by decide +kernel
theorem d_p6m11_57 : decode prog_6_method_11_code 57 = .ok (.iconst 1, 1) := by decide +kernel
theorem d_p6m11_58 : decode prog_6_method_11_code 58 = .ok (.goto 4, 3) := by decide +kernel
theorem d_p6m11_61 : decode prog_6_method_11_code 61 = .ok (.iconst 0, 1) := by decide +kernel
theorem d_p6m11_62 : decode prog_6_method_11_code 62 = .ok (.ireturn, 1) := by decide +kernel
abbrev y_Grammar_isPattern : MethodName := ⟨"PolicyDesk$Grammar", "isPattern", "(Ljava/lang/String;)Z"⟩
theorem ok_Grammar_isPattern : pd_ok y_Grammar_isPattern prog_6_method_11_code 4 (some .boolean) 1 := ⟨mT_745, mT_25, by decide, by decide +kernel⟩
abbrev rm_Grammar_isPattern : Room := { frames := 8, cells := 10, slots := 320, locals := 194 }
set_option maxHeartbeats 4000000 in
set_option maxRecDepth 100000 in
theorem c_Grammar_isPattern (l : Launch) (G : pd_G) (h : pd_H) {a : Nat} {cs : List Nat} (hS : pd_Str h a cs) : pd_M l y_Grammar_isPattern prog_6_method_11_code 4 (some .boolean) rm_Grammar_isPattern G h [.ref a] pd_vb (fun r h1 => r = gr_pat cs ∧ pd_kx [] h h1) := by
  refine pd_M.of (by decide) (Nat.le_of_ble_eq_true rfl) ?_
  intro p e s m below meth c X hmn w ls hl
  have hx := X.1
  have hb := X.2.1
  have hl : lv_has ls 4 [(0, .ref a)] := hl
  obtain ⟨v1, f1, hv1, hv2, hvf, hvc, hvl⟩ := id hS
  refine lv_aload_n hx hb d_p6m11_0 rfl (lv_at hl 0 rfl) ?_
  refine pd_cS (As := [.ref a]) (rest := []) X w (c_Grammar_afterDot l G h (by assumption)) ok_Grammar_afterDot mT_649 mT_648 ⟨by decide, by decide⟩ rfl hl.1 rfl (Nat.le_of_ble_eq_true rfl) d_p6m11_1 ⟨by decide, by decide⟩ (fun r1 h2 H locs hp3 w => ?_)
  refine W.widen (k := 2) (n := 64) (by decide) (by decide) ?_
  obtain ⟨k4, ds5, e6, f7⟩ := hp3
  have f15 := k4 _ _ hv1 List.not_mem_nil
  have f16 := k4 _ _ hv2 List.not_mem_nil
  have f17 := hS.kx k4 List.not_mem_nil
  obtain ⟨v8, g9, f10, f11, gf12, gc13, gl14⟩ := id f7
  refine lv_astore_n (lv' := [(1, .ref r1), (0, .ref a)]) hx hb d_p6m11_4 rfl hl (by decide) rfl (fun ls hl => ?_)
  refine lv_aload_n hx hb d_p6m11_5 rfl (lv_at hl 1 rfl) ?_
  refine lv_bipush (v := nI 46) hx hb d_p6m11_6 (by decide) ?_
  refine pd_cV (a := a) (As := [.int (nI 46)]) (rest := []) X w f15 rfl (c_String_indexOf l G h2 (by assumption) (by omega)) ok_String_indexOf ⟨mT_652, mT_653⟩ mT_651 ⟨by decide, by decide⟩ rfl hl.1 rfl (Nat.le_of_ble_eq_true rfl) d_p6m11_8 ⟨by decide, by decide⟩ (fun r18 h19 H locs hp20 w => ?_)
  refine W.widen (k := 2) (n := 64) (by decide) (by decide) ?_
  obtain ⟨e21, rfl⟩ := hp20
  refine pd_mlt (tgt := 32) hx hb d_p6m11_11 (by decide) (fun x hx => by have z := tx_ix_lt (e21.symm.trans hx); (try simp at z); omega) (fun q22 => ?_) (fun j23 q22 => ?_)
  · -- none: 32
    rw [q22] at e21
    refine lv_aload_n hx hb d_p6m11_32 rfl (lv_at hl 1 rfl) ?_
    refine pd_cS (As := [.ref a]) (rest := []) X w (c_Grammar_beforeDot l G h2 (by assumption)) ok_Grammar_beforeDot mT_714 mT_713 ⟨by decide, by decide⟩ rfl hl.1 rfl (Nat.le_of_ble_eq_true rfl) d_p6m11_33 ⟨by decide, by decide⟩ (fun r24 h25 H locs hp26 w => ?_)
    refine W.widen (k := 4) (n := 128) (by decide) (by decide) ?_
    obtain ⟨k27, ds28, e29, f30⟩ := hp26
    have f38 := k27 _ _ f15 List.not_mem_nil
    have f39 := k27 _ _ f10 List.not_mem_nil
    have f40 := k27 _ _ f16 List.not_mem_nil
    have f41 := k27 _ _ f11 List.not_mem_nil
    have f42 := f17.kx k27 List.not_mem_nil
    have f43 := f7.kx k27 List.not_mem_nil
    obtain ⟨v31, g32, f33, f34, gf35, gc36, gl37⟩ := id f30
    refine lv_astore_n (lv' := [(2, .ref r24), (1, .ref r1), (0, .ref a)]) hx hb d_p6m11_36 rfl hl (by decide) rfl (fun ls hl => ?_)
    refine lv_aload_n hx hb d_p6m11_37 rfl (lv_at hl 0 rfl) ?_
    refine pd_cS (As := [.ref r24]) (rest := []) X w (c_Pattern_reachOf l G h25 (by assumption)) ok_Pattern_reachOf mT_748 mT_747 ⟨by decide, by decide⟩ rfl hl.1 rfl (Nat.le_of_ble_eq_true rfl) d_p6m11_38 ⟨by decide, by decide⟩ (fun r44 h45 H locs hp46 w => ?_)
    refine W.widen (k := 8) (n := 256) (by decide) (by decide) ?_
    obtain ⟨e47, k48⟩ := hp46
    have f49 := k48 _ _ f38 List.not_mem_nil
    have f50 := k48 _ _ f39 List.not_mem_nil
    have f51 := k48 _ _ f33 List.not_mem_nil
    have f52 := k48 _ _ f40 List.not_mem_nil
    have f53 := k48 _ _ f41 List.not_mem_nil
    have f54 := k48 _ _ f34 List.not_mem_nil
    have f55 := f42.kx k48 List.not_mem_nil
    have f56 := f43.kx k48 List.not_mem_nil
    have f57 := f30.kx k48 List.not_mem_nil
    have hle3 : r44 ≤ 3 := by rw [e47]; exact gr_reach_le _
    refine lv_istore_n (lv' := [(3, .int (nI r44)), (2, .ref r24), (1, .ref r1), (0, .ref a)]) hx hb d_p6m11_41 rfl hl (by decide) rfl (fun ls hl => ?_)
    refine lv_iload_n hx hb d_p6m11_42 rfl (lv_at hl 0 rfl) ?_
    refine pd_zeq (tgt := 57) hx hb d_p6m11_43 (by decide) (by omega) (fun q58 => ?_) (fun q58 => ?_)
    · -- taken: 57
      refine lv_iconst (v := nI 1) hx hb d_p6m11_57 (by decide) ?_
      refine lv_goto (tgt := 62) hx hb d_p6m11_58 (by decide) ?_
      refine W.eq (g2 := F0 m 62 ls [.int (pd_b true)]) rfl ?_
      exact pd_zret (v := true) X w ⟨(gr_pat_0 (fun z => z.1 e21.symm) (by rw [← e29, ← e47]; exact q58)).symm, pd_kx.tr (pd_kx.tr (k4) (k27)) (k48)⟩ (by decide) (by decide) d_p6m11_62
    · -- not taken: 46
      refine lv_aload_n hx hb d_p6m11_46 rfl (lv_at hl 1 rfl) ?_
      refine lv_iload_n hx hb d_p6m11_47 rfl (lv_at hl 0 rfl) ?_
      refine pd_cS (As := [.ref r24, .int (nI r44)]) (rest := []) X w (c_Pattern_nameOf l G h45 (by assumption) (by rw [e47]; exact gr_reach_le _) (fun z => gr_reach_1 (by rw [← e47]; exact z)) (fun z => gr_reach_2 (by rw [← e47]; exact z))) ok_Pattern_nameOf mT_758 mT_757 ⟨by decide, by decide⟩ rfl hl.1 rfl (Nat.le_of_ble_eq_true rfl) d_p6m11_48 ⟨by decide, by decide⟩ (fun r59 h60 H locs hp61 w => ?_)
      refine W.widen (k := 10) (n := 320) (by decide) (by decide) ?_
      obtain ⟨k62, ds63, e64, f65⟩ := hp61
      have f73 := k62 _ _ f49 List.not_mem_nil
      have f74 := k62 _ _ f50 List.not_mem_nil
      have f75 := k62 _ _ f51 List.not_mem_nil
      have f76 := k62 _ _ f52 List.not_mem_nil
      have f77 := k62 _ _ f53 List.not_mem_nil
      have f78 := k62 _ _ f54 List.not_mem_nil
      have f79 := f55.kx k62 List.not_mem_nil
      have f80 := f56.kx k62 List.not_mem_nil
      have f81 := f57.kx k62 List.not_mem_nil
      obtain ⟨v66, g67, f68, f69, gf70, gc71, gl72⟩ := id f65
      refine pd_cS (As := [.ref r59]) (rest := []) X w (c_Grammar_isName l G h60 (by assumption)) ok_Grammar_isName mT_636 mT_635 ⟨by decide, by decide⟩ rfl hl.1 rfl (Nat.le_of_ble_eq_true rfl) d_p6m11_51 ⟨by decide, by decide⟩ (fun r82 h83 H locs hp84 w => ?_)
      refine W.widen (k := 10) (n := 320) (by decide) (by decide) ?_
      obtain ⟨e85, rfl⟩ := hp84
      refine pd_beq (tgt := 61) hx hb d_p6m11_54 (by decide) (fun q86 => ?_) (fun q86 => ?_)
      · -- taken: 61
        refine lv_iconst (v := nI 0) hx hb d_p6m11_61 (by decide) ?_
        refine W.eq (g2 := F0 m 62 ls [.int (pd_b false)]) rfl ?_
        exact pd_zret (v := false) X w ⟨(gr_pat_n (fun z => z.1 e21.symm) (by rw [← e29, ← e47]; exact q58) (by rw [← e29, ← e47, ← e64, ← e85]; exact q86)).symm, pd_kx.tr (pd_kx.tr (pd_kx.tr (k4) (k27)) (k48)) (k62)⟩ (by decide) (by decide) d_p6m11_62
      · -- not taken: 57
        refine lv_iconst (v := nI 1) hx hb d_p6m11_57 (by decide) ?_
        refine lv_goto (tgt := 62) hx hb d_p6m11_58 (by decide) ?_
        refine W.eq (g2 := F0 m 62 ls [.int (pd_b true)]) rfl ?_
        exact pd_zret (v := true) X w ⟨(gr_pat_n (fun z => z.1 e21.symm) (by rw [← e29, ← e47]; exact q58) (by rw [← e29, ← e47, ← e64, ← e85]; exact q86)).symm, pd_kx.tr (pd_kx.tr (pd_kx.tr (k4) (k27)) (k48)) (k62)⟩ (by decide) (by decide) d_p6m11_62
  · -- some: 14
    rw [q22] at e21
    have j23lt := tx_ix_lt e21.symm
    refine lv_aload_n hx hb d_p6m11_14 rfl (lv_at hl 0 rfl) ?_
    refine pd_ldc X (List.mem_of_getElem? (i := 12) rfl) d_p6m11_15 ?_
    have L87 : pd_Str h2 (G.2.2.2 52) [42] := pd_litS X w 12 (by decide)
    obtain ⟨v88, g89, f90, f91, gf92, gc93, gl94⟩ := id L87
    refine pd_cV (a := r1) (As := [.ref (G.2.2.2 52)]) (rest := []) X w f10 rfl (c_String_equals l G h2 (by assumption) (by assumption)) ok_String_equals ⟨mT_613, mT_614⟩ mT_644 ⟨by decide, by decide⟩ rfl hl.1 rfl (Nat.le_of_ble_eq_true rfl) d_p6m11_17 ⟨by decide, by decide⟩ (fun r95 h96 H locs hp97 w => ?_)
    refine W.widen (k := 2) (n := 64) (by decide) (by decide) ?_
    obtain ⟨e98, rfl⟩ := hp97
    refine pd_bne (tgt := 32) hx hb d_p6m11_20 (by decide) (fun q99 => ?_) (fun q99 => ?_)
    · -- taken: 32
      refine lv_aload_n hx hb d_p6m11_32 rfl (lv_at hl 1 rfl) ?_
      refine pd_cS (As := [.ref a]) (rest := []) X w (c_Grammar_beforeDot l G h2 (by assumption)) ok_Grammar_beforeDot mT_714 mT_713 ⟨by decide, by decide⟩ rfl hl.1 rfl (Nat.le_of_ble_eq_true rfl) d_p6m11_33 ⟨by decide, by decide⟩ (fun r100 h101 H locs hp102 w => ?_)
      refine W.widen (k := 4) (n := 128) (by decide) (by decide) ?_
      obtain ⟨k103, ds104, e105, f106⟩ := hp102
      have f114 := k103 _ _ f15 List.not_mem_nil
      have f115 := k103 _ _ f10 List.not_mem_nil
      have f116 := k103 _ _ f90 List.not_mem_nil
      have f117 := k103 _ _ f16 List.not_mem_nil
      have f118 := k103 _ _ f11 List.not_mem_nil
      have f119 := k103 _ _ f91 List.not_mem_nil
      have f120 := f17.kx k103 List.not_mem_nil
      have f121 := f7.kx k103 List.not_mem_nil
      have f122 := L87.kx k103 List.not_mem_nil
      obtain ⟨v107, g108, f109, f110, gf111, gc112, gl113⟩ := id f106
      refine lv_astore_n (lv' := [(2, .ref r100), (1, .ref r1), (0, .ref a)]) hx hb d_p6m11_36 rfl hl (by decide) rfl (fun ls hl => ?_)
      refine lv_aload_n hx hb d_p6m11_37 rfl (lv_at hl 0 rfl) ?_
      refine pd_cS (As := [.ref r100]) (rest := []) X w (c_Pattern_reachOf l G h101 (by assumption)) ok_Pattern_reachOf mT_748 mT_747 ⟨by decide, by decide⟩ rfl hl.1 rfl (Nat.le_of_ble_eq_true rfl) d_p6m11_38 ⟨by decide, by decide⟩ (fun r123 h124 H locs hp125 w => ?_)
      refine W.widen (k := 8) (n := 256) (by decide) (by decide) ?_
      obtain ⟨e126, k127⟩ := hp125
      have f128 := k127 _ _ f114 List.not_mem_nil
      have f129 := k127 _ _ f115 List.not_mem_nil
      have f130 := k127 _ _ f116 List.not_mem_nil
      have f131 := k127 _ _ f109 List.not_mem_nil
      have f132 := k127 _ _ f117 List.not_mem_nil
      have f133 := k127 _ _ f118 List.not_mem_nil
      have f134 := k127 _ _ f119 List.not_mem_nil
      have f135 := k127 _ _ f110 List.not_mem_nil
      have f136 := f120.kx k127 List.not_mem_nil
      have f137 := f121.kx k127 List.not_mem_nil
      have f138 := f122.kx k127 List.not_mem_nil
      have f139 := f106.kx k127 List.not_mem_nil
      have hle3 : r123 ≤ 3 := by rw [e126]; exact gr_reach_le _
      refine lv_istore_n (lv' := [(3, .int (nI r123)), (2, .ref r100), (1, .ref r1), (0, .ref a)]) hx hb d_p6m11_41 rfl hl (by decide) rfl (fun ls hl => ?_)
      refine lv_iload_n hx hb d_p6m11_42 rfl (lv_at hl 0 rfl) ?_
      refine pd_zeq (tgt := 57) hx hb d_p6m11_43 (by decide) (by omega) (fun q140 => ?_) (fun q140 => ?_)
      · -- taken: 57
        refine lv_iconst (v := nI 1) hx hb d_p6m11_57 (by decide) ?_
        refine lv_goto (tgt := 62) hx hb d_p6m11_58 (by decide) ?_
        refine W.eq (g2 := F0 m 62 ls [.int (pd_b true)]) rfl ?_
        exact pd_zret (v := true) X w ⟨(gr_pat_0 (fun z => z.2.1 (by rw [← e6]; exact of_decide_eq_true (e98.symm.trans q99))) (by rw [← e105, ← e126]; exact q140)).symm, pd_kx.tr (pd_kx.tr (k4) (k103)) (k127)⟩ (by decide) (by decide) d_p6m11_62
      · -- not taken: 46
        refine lv_aload_n hx hb d_p6m11_46 rfl (lv_at hl 1 rfl) ?_
        refine lv_iload_n hx hb d_p6m11_47 rfl (lv_at hl 0 rfl) ?_
        refine pd_cS (As := [.ref r100, .int (nI r123)]) (rest := []) X w (c_Pattern_nameOf l G h124 (by assumption) (by rw [e126]; exact gr_reach_le _) (fun z => gr_reach_1 (by rw [← e126]; exact z)) (fun z => gr_reach_2 (by rw [← e126]; exact z))) ok_Pattern_nameOf mT_758 mT_757 ⟨by decide, by decide⟩ rfl hl.1 rfl (Nat.le_of_ble_eq_true rfl) d_p6m11_48 ⟨by decide, by decide⟩ (fun r141 h142 H locs hp143 w => ?_)
        refine W.widen (k := 10) (n := 320) (by decide) (by decide) ?_
        obtain ⟨k144, ds145, e146, f147⟩ := hp143
        have f155 := k144 _ _ f128 List.not_mem_nil
        have f156 := k144 _ _ f129 List.not_mem_nil
        have f157 := k144 _ _ f130 List.not_mem_nil
        have f158 := k144 _ _ f131 List.not_mem_nil
        have f159 := k144 _ _ f132 List.not_mem_nil
        have f160 := k144 _ _ f133 List.not_mem_nil
        have f161 := k144 _ _ f134 List.not_mem_nil
        have f162 := k144 _ _ f135 List.not_mem_nil
        have f163 := f136.kx k144 List.not_mem_nil
        have f164 := f137.kx k144 List.not_mem_nil
        have f165 := f138.kx k144 List.not_mem_nil
        have f166 := f139.kx k144 List.not_mem_nil
        obtain ⟨v148, g149, f150, f151, gf152, gc153, gl154⟩ := id f147
        refine pd_cS (As := [.ref r141]) (rest := []) X w (c_Grammar_isName l G h142 (by assumption)) ok_Grammar_isName mT_636 mT_635 ⟨by decide, by decide⟩ rfl hl.1 rfl (Nat.le_of_ble_eq_true rfl) d_p6m11_51 ⟨by decide, by decide⟩ (fun r167 h168 H locs hp169 w => ?_)
        refine W.widen (k := 10) (n := 320) (by decide) (by decide) ?_
        obtain ⟨e170, rfl⟩ := hp169
        refine pd_beq (tgt := 61) hx hb d_p6m11_54 (by decide) (fun q171 => ?_) (fun q171 => ?_)
        · -- taken: 61
          refine lv_iconst (v := nI 0) hx hb d_p6m11_61 (by decide) ?_
          refine W.eq (g2 := F0 m 62 ls [.int (pd_b false)]) rfl ?_
          exact pd_zret (v := false) X w ⟨(gr_pat_n (fun z => z.2.1 (by rw [← e6]; exact of_decide_eq_true (e98.symm.trans q99))) (by rw [← e105, ← e126]; exact q140) (by rw [← e105, ← e126, ← e146, ← e170]; exact q171)).symm, pd_kx.tr (pd_kx.tr (pd_kx.tr (k4) (k103)) (k127)) (k144)⟩ (by decide) (by decide) d_p6m11_62
        · -- not taken: 57
          refine lv_iconst (v := nI 1) hx hb d_p6m11_57 (by decide) ?_
          refine lv_goto (tgt := 62) hx hb d_p6m11_58 (by decide) ?_
          refine W.eq (g2 := F0 m 62 ls [.int (pd_b true)]) rfl ?_
          exact pd_zret (v := true) X w ⟨(gr_pat_n (fun z => z.2.1 (by rw [← e6]; exact of_decide_eq_true (e98.symm.trans q99))) (by rw [← e105, ← e126]; exact q140) (by rw [← e105, ← e126, ← e146, ← e170]; exact q171)).symm, pd_kx.tr (pd_kx.tr (pd_kx.tr (k4) (k103)) (k127)) (k144)⟩ (by decide) (by decide) d_p6m11_62
    · -- not taken: 23
      refine lv_aload_n hx hb d_p6m11_23 rfl (lv_at hl 0 rfl) ?_
      refine pd_cS (As := [.ref r1]) (rest := []) X w (c_Grammar_isPart l G h2 (by assumption)) ok_Grammar_isPart mT_707 mT_706 ⟨by decide, by decide⟩ rfl hl.1 rfl (Nat.le_of_ble_eq_true rfl) d_p6m11_24 ⟨by decide, by decide⟩ (fun r172 h173 H locs hp174 w => ?_)
      refine W.widen (k := 2) (n := 64) (by decide) (by decide) ?_
      obtain ⟨e175, rfl⟩ := hp174
      refine pd_bne (tgt := 32) hx hb d_p6m11_27 (by decide) (fun q176 => ?_) (fun q176 => ?_)
      · -- taken: 32
        refine lv_aload_n hx hb d_p6m11_32 rfl (lv_at hl 1 rfl) ?_
        refine pd_cS (As := [.ref a]) (rest := []) X w (c_Grammar_beforeDot l G h2 (by assumption)) ok_Grammar_beforeDot mT_714 mT_713 ⟨by decide, by decide⟩ rfl hl.1 rfl (Nat.le_of_ble_eq_true rfl) d_p6m11_33 ⟨by decide, by decide⟩ (fun r177 h178 H locs hp179 w => ?_)
        refine W.widen (k := 4) (n := 128) (by decide) (by decide) ?_
        obtain ⟨k180, ds181, e182, f183⟩ := hp179
        have f191 := k180 _ _ f15 List.not_mem_nil
        have f192 := k180 _ _ f10 List.not_mem_nil
        have f193 := k180 _ _ f90 List.not_mem_nil
        have f194 := k180 _ _ f16 List.not_mem_nil
        have f195 := k180 _ _ f11 List.not_mem_nil
        have f196 := k180 _ _ f91 List.not_mem_nil
        have f197 := f17.kx k180 List.not_mem_nil
        have f198 := f7.kx k180 List.not_mem_nil
        have f199 := L87.kx k180 List.not_mem_nil
        obtain ⟨v184, g185, f186, f187, gf188, gc189, gl190⟩ := id f183
        refine lv_astore_n (lv' := [(2, .ref r177), (1, .ref r1), (0, .ref a)]) hx hb d_p6m11_36 rfl hl (by decide) rfl (fun ls hl => ?_)
        refine lv_aload_n hx hb d_p6m11_37 rfl (lv_at hl 0 rfl) ?_
        refine pd_cS (As := [.ref r177]) (rest := []) X w (c_Pattern_reachOf l G h178 (by assumption)) ok_Pattern_reachOf mT_748 mT_747 ⟨by decide, by decide⟩ rfl hl.1 rfl (Nat.le_of_ble_eq_true rfl) d_p6m11_38 ⟨by decide, by decide⟩ (fun r200 h201 H locs hp202 w => ?_)
        refine W.widen (k := 8) (n := 256) (by decide) (by decide) ?_
        obtain ⟨e203, k204⟩ := hp202
        have f205 := k204 _ _ f191 List.not_mem_nil
        have f206 := k204 _ _ f192 List.not_mem_nil
        have f207 := k204 _ _ f193 List.not_mem_nil
        have f208 := k204 _ _ f186 List.not_mem_nil
        have f209 := k204 _ _ f194 List.not_mem_nil
        have f210 := k204 _ _ f195 List.not_mem_nil
        have f211 := k204 _ _ f196 List.not_mem_nil
        have f212 := k204 _ _ f187 List.not_mem_nil
        have f213 := f197.kx k204 List.not_mem_nil
        have f214 := f198.kx k204 List.not_mem_nil
        have f215 := f199.kx k204 List.not_mem_nil
        have f216 := f183.kx k204 List.not_mem_nil
        have hle3 : r200 ≤ 3 := by rw [e203]; exact gr_reach_le _
        refine lv_istore_n (lv' := [(3, .int (nI r200)), (2, .ref r177), (1, .ref r1), (0, .ref a)]) hx hb d_p6m11_41 rfl hl (by decide) rfl (fun ls hl => ?_)
        refine lv_iload_n hx hb d_p6m11_42 rfl (lv_at hl 0 rfl) ?_
        refine pd_zeq (tgt := 57) hx hb d_p6m11_43 (by decide) (by omega) (fun q217 => ?_) (fun q217 => ?_)
        · -- taken: 57
          refine lv_iconst (v := nI 1) hx hb d_p6m11_57 (by decide) ?_
          refine lv_goto (tgt := 62) hx hb d_p6m11_58 (by decide) ?_
          refine W.eq (g2 := F0 m 62 ls [.int (pd_b true)]) rfl ?_
          exact pd_zret (v := true) X w ⟨(gr_pat_0 (fun z => by have y := z.2.2; rw [← e6, ← e175, q176] at y; cases y) (by rw [← e182, ← e203]; exact q217)).symm, pd_kx.tr (pd_kx.tr (k4) (k180)) (k204)⟩ (by decide) (by decide) d_p6m11_62
        · -- not taken: 46
          refine lv_aload_n hx hb d_p6m11_46 rfl (lv_at hl 1 rfl) ?_
          refine lv_iload_n hx hb d_p6m11_47 rfl (lv_at hl 0 rfl) ?_
          refine pd_cS (As := [.ref r177, .int (nI r200)]) (rest := []) X w (c_Pattern_nameOf l G h201 (by assumption) (by rw [e203]; exact gr_reach_le _) (fun z => gr_reach_1 (by rw [← e203]; exact z)) (fun z => gr_reach_2 (by rw [← e203]; exact z))) ok_Pattern_nameOf mT_758 mT_757 ⟨by decide, by decide⟩ rfl hl.1 rfl (Nat.le_of_ble_eq_true rfl) d_p6m11_48 ⟨by decide, by decide⟩ (fun r218 h219 H locs hp220 w => ?_)
          refine W.widen (k := 10) (n := 320) (by decide) (by decide) ?_
          obtain ⟨k221, ds222, e223, f224⟩ := hp220
          have f232 := k221 _ _ f205 List.not_mem_nil
          have f233 := k221 _ _ f206 List.not_mem_nil
          have f234 := k221 _ _ f207 List.not_mem_nil
          have f235 := k221 _ _ f208 List.not_mem_nil
          have f236 := k221 _ _ f209 List.not_mem_nil
          have f237 := k221 _ _ f210 List.not_mem_nil
          have f238 := k221 _ _ f211 List.not_mem_nil
          have f239 := k221 _ _ f212 List.not_mem_nil
          have f240 := f213.kx k221 List.not_mem_nil
          have f241 := f214.kx k221 List.not_mem_nil
          have f242 := f215.kx k221 List.not_mem_nil
          have f243 := f216.kx k221 List.not_mem_nil
          obtain ⟨v225, g226, f227, f228, gf229, gc230, gl231⟩ := id f224
          refine pd_cS (As := [.ref r218]) (rest := []) X w (c_Grammar_isName l G h219 (by assumption)) ok_Grammar_isName mT_636 mT_635 ⟨by decide, by decide⟩ rfl hl.1 rfl (Nat.le_of_ble_eq_true rfl) d_p6m11_51 ⟨by decide, by decide⟩ (fun r244 h245 H locs hp246 w => ?_)
          refine W.widen (k := 10) (n := 320) (by decide) (by decide) ?_
          obtain ⟨e247, rfl⟩ := hp246
          refine pd_beq (tgt := 61) hx hb d_p6m11_54 (by decide) (fun q248 => ?_) (fun q248 => ?_)
          · -- taken: 61
            refine lv_iconst (v := nI 0) hx hb d_p6m11_61 (by decide) ?_
            refine W.eq (g2 := F0 m 62 ls [.int (pd_b false)]) rfl ?_
            exact pd_zret (v := false) X w ⟨(gr_pat_n (fun z => by have y := z.2.2; rw [← e6, ← e175, q176] at y; cases y) (by rw [← e182, ← e203]; exact q217) (by rw [← e182, ← e203, ← e223, ← e247]; exact q248)).symm, pd_kx.tr (pd_kx.tr (pd_kx.tr (k4) (k180)) (k204)) (k221)⟩ (by decide) (by decide) d_p6m11_62
          · -- not taken: 57
            refine lv_iconst (v := nI 1) hx hb d_p6m11_57 (by decide) ?_
            refine lv_goto (tgt := 62) hx hb d_p6m11_58 (by decide) ?_
            refine W.eq (g2 := F0 m 62 ls [.int (pd_b true)]) rfl ?_
            exact pd_zret (v := true) X w ⟨(gr_pat_n (fun z => by have y := z.2.2; rw [← e6, ← e175, q176] at y; cases y) (by rw [← e182, ← e203]; exact q217) (by rw [← e182, ← e203, ← e223, ← e247]; exact q248)).symm, pd_kx.tr (pd_kx.tr (pd_kx.tr (k4) (k180)) (k204)) (k221)⟩ (by decide) (by decide) d_p6m11_62
      · -- not taken: 30
        refine lv_iconst (v := nI 0) hx hb d_p6m11_30 (by decide) ?_
        refine W.eq (g2 := F0 m 31 ls [.int (pd_b false)]) rfl ?_
        exact pd_zret (v := false) X w ⟨(gr_pat_f ⟨by rw [← e21]; simp, (by rw [← e6]; exact of_decide_eq_false (e98.symm.trans q99)), (by rw [← e6, ← e175]; exact q176)⟩).symm, k4⟩ (by decide) (by decide) d_p6m11_31
