theorem gr_mem_t {cs : List Nat} (q1 : (gr_ad cs).length ≤ 12) (q2 : gr_part (gr_ad cs) = true) (q3 : gr_name (gr_bd cs) = true) : gr_mem cs = true := by
  unfold gr_mem
  rw [decide_eq_true q1, q2, q3]
  rfl
theorem gr_mem_f1 {cs : List Nat} (q1 : 12 < (gr_ad cs).length) : gr_mem cs = false := by
  unfold gr_mem
  rw [decide_eq_false (by omega)]
  rfl
theorem gr_mem_f2 {cs : List Nat} (q : gr_part (gr_ad cs) = false) : gr_mem cs = false := by
  unfold gr_mem
  rw [q, Bool.false_and, Bool.and_false]
theorem gr_mem_f3 {cs : List Nat} (q : gr_name (gr_bd cs) = false) : gr_mem cs = false := by
  unfold gr_mem
  rw [q, Bool.and_false, Bool.and_false]
theorem d_p6m10_0 : decode prog_6_method_10_code 0 = .ok (.aload_n 0, 1) := by decide +kernel
theorem d_p6m10_1 : decode prog_6_method_10_code 1 = .ok (.invokestatic 96, 3) := by decide +kernel
theorem d_p6m10_4 : decode prog_6_method_10_code 4 = .ok (.astore_n 1, 1) := by decide +kernel
theorem d_p6m10_5 : decode prog_6_method_10_code 5 = .ok (.aload_n 1, 1) := by decide +kernel
theorem d_p6m10_6 : decode prog_6_method_10_code 6 = .ok (.invokevirtual 69, 3) := by decide +kernel
theorem d_p6m10_9 : decode prog_6_method_10_code 9 = .ok (.bipush 12, 2) := by decide +kernel
theorem d_p6m10_11 : decode prog_6_method_10_code 11 = .ok (.if_icmp .gt 24, 3) := by decide +kernel
theorem d_p6m10_14 : decode prog_6_method_10_code 14 = .ok (.aload_n 1, 1) := by decide +kernel
theorem d_p6m10_15 : decode prog_6_method_10_code 15 = .ok (.invokestatic 100, 3) := by decide +kernel
theorem d_p6m10_18 : decode prog_6_method_10_code 18 = .ok (.ifCond .eq 17, 3) := by decide +kernel
theorem d_p6m10_21 : decode prog_6_method_10_code 21 = .ok (.aload_n 0, 1) := by decide +kernel
theorem d_p6m10_22 : decode prog_6_method_10_code 22 = .ok (.invokestatic 103, 3) := by decide +kernel
theorem d_p6m10_25 : decode prog_6_method_10_code 25 = .ok (.invokestatic 55, 3) := by decide +kernel
theorem d_p6m10_28 : decode prog_6_method_10_code 28 = .ok (.ifCond .eq 7, 3) := by decide +kernel
theorem d_p6m10_31 : decode prog_6_method_10_code 31 = .ok (.iconst 1, 1) := by decide +kernel
theorem d_p6m10_32 : decode prog_6_method_10_code 32 = .ok (.goto 4, 3) := by decide +kernel
theorem d_p6m10_35 : decode prog_6_method_10_code 35 = .ok (.iconst 0, 1) := by decide +kernel
theorem d_p6m10_36 : decode prog_6_method_10_code 36 = .ok (.ireturn, 1) := by decide +kernel
abbrev y_Grammar_isMember : MethodName := ⟨"PolicyDesk$Grammar", "isMember", "(Ljava/lang/String;)Z"⟩
theorem ok_Grammar_isMember : pd_ok y_Grammar_isMember prog_6_method_10_code 2 (some .boolean) 1 := ⟨mT_647, mT_25, by decide, by decide +kernel⟩
abbrev rm_Grammar_isMember : Room := { frames := 7, cells := 4, slots := 128, locals := 174 }
set_option maxHeartbeats 4000000 in
set_option maxRecDepth 100000 in
theorem c_Grammar_isMember (l : Launch) (G : pd_G) (h : pd_H) {a : Nat} {cs : List Nat} (hS : pd_Str h a cs) : pd_M l y_Grammar_isMember prog_6_method_10_code 2 (some .boolean) rm_Grammar_isMember G h [.ref a] pd_vb (fun r h1 => r = gr_mem cs ∧ pd_kx [] h h1) := by
  refine pd_M.of (by decide) (Nat.le_of_ble_eq_true rfl) ?_
  intro p e s m below meth c X hmn w ls hl
  have hx := X.1
  have hb := X.2.1
  have hl : lv_has ls 2 [(0, .ref a)] := hl
  obtain ⟨v1, f1, hv1, hv2, hvf, hvc, hvl⟩ := id hS
  refine lv_aload_n hx hb d_p6m10_0 rfl (lv_at hl 0 rfl) ?_
  refine pd_cS (As := [.ref a]) (rest := []) X w (c_Grammar_afterDot l G h (by assumption)) ok_Grammar_afterDot mT_649 mT_648 ⟨by decide, by decide⟩ rfl hl.1 rfl (Nat.le_of_ble_eq_true rfl) d_p6m10_1 ⟨by decide, by decide⟩ (fun r1 h2 H locs hp3 w => ?_)
  refine W.widen (k := 2) (n := 64) (by decide) (by decide) ?_
  obtain ⟨k4, ds5, e6, f7⟩ := hp3
  have f15 := k4 _ _ hv1 List.not_mem_nil
  have f16 := k4 _ _ hv2 List.not_mem_nil
  have f17 := hS.kx k4 List.not_mem_nil
  obtain ⟨v8, g9, f10, f11, gf12, gc13, gl14⟩ := id f7
  refine lv_astore_n (lv' := [(1, .ref r1), (0, .ref a)]) hx hb d_p6m10_4 rfl hl (by decide) rfl (fun ls hl => ?_)
  refine lv_aload_n hx hb d_p6m10_5 rfl (lv_at hl 0 rfl) ?_
  refine pd_cV (a := r1) (As := []) (rest := []) X w f10 rfl (c_String_length l G h2 (by assumption)) ok_String_length ⟨mT_93, mT_94⟩ mT_638 ⟨by decide, by decide⟩ rfl hl.1 rfl (Nat.le_of_ble_eq_true rfl) d_p6m10_6 ⟨by decide, by decide⟩ (fun r18 h19 H locs hp20 w => ?_)
  refine W.widen (k := 2) (n := 64) (by decide) (by decide) ?_
  obtain ⟨e21, rfl⟩ := hp20
  refine lv_bipush (v := nI 12) hx hb d_p6m10_9 (by decide) ?_
  refine pd_jgt (tgt := 35) hx hb d_p6m10_11 (by decide) (by omega) (by omega) (fun q22 => ?_) (fun q22 => ?_)
  · -- taken: 35
    refine lv_iconst (v := nI 0) hx hb d_p6m10_35 (by decide) ?_
    refine W.eq (g2 := F0 m 36 ls [.int (pd_b false)]) rfl ?_
    exact pd_zret (v := false) X w ⟨(gr_mem_f1 (by rw [← e6]; omega)).symm, k4⟩ (by decide) (by decide) d_p6m10_36
  · -- not taken: 14
    refine lv_aload_n hx hb d_p6m10_14 rfl (lv_at hl 0 rfl) ?_
    refine pd_cS (As := [.ref r1]) (rest := []) X w (c_Grammar_isPart l G h2 (by assumption)) ok_Grammar_isPart mT_707 mT_706 ⟨by decide, by decide⟩ rfl hl.1 rfl (Nat.le_of_ble_eq_true rfl) d_p6m10_15 ⟨by decide, by decide⟩ (fun r23 h24 H locs hp25 w => ?_)
    refine W.widen (k := 2) (n := 64) (by decide) (by decide) ?_
    obtain ⟨e26, rfl⟩ := hp25
    refine pd_beq (tgt := 35) hx hb d_p6m10_18 (by decide) (fun q27 => ?_) (fun q27 => ?_)
    · -- taken: 35
      refine lv_iconst (v := nI 0) hx hb d_p6m10_35 (by decide) ?_
      refine W.eq (g2 := F0 m 36 ls [.int (pd_b false)]) rfl ?_
      exact pd_zret (v := false) X w ⟨(gr_mem_f2 (by rw [← e6, ← e26]; exact q27)).symm, k4⟩ (by decide) (by decide) d_p6m10_36
    · -- not taken: 21
      refine lv_aload_n hx hb d_p6m10_21 rfl (lv_at hl 1 rfl) ?_
      refine pd_cS (As := [.ref a]) (rest := []) X w (c_Grammar_beforeDot l G h2 (by assumption)) ok_Grammar_beforeDot mT_714 mT_713 ⟨by decide, by decide⟩ rfl hl.1 rfl (Nat.le_of_ble_eq_true rfl) d_p6m10_22 ⟨by decide, by decide⟩ (fun r28 h29 H locs hp30 w => ?_)
      refine W.widen (k := 4) (n := 128) (by decide) (by decide) ?_
      obtain ⟨k31, ds32, e33, f34⟩ := hp30
      have f42 := k31 _ _ f15 List.not_mem_nil
      have f43 := k31 _ _ f10 List.not_mem_nil
      have f44 := k31 _ _ f16 List.not_mem_nil
      have f45 := k31 _ _ f11 List.not_mem_nil
      have f46 := f17.kx k31 List.not_mem_nil
      have f47 := f7.kx k31 List.not_mem_nil
      obtain ⟨v35, g36, f37, f38, gf39, gc40, gl41⟩ := id f34
      refine pd_cS (As := [.ref r28]) (rest := []) X w (c_Grammar_isName l G h29 (by assumption)) ok_Grammar_isName mT_636 mT_635 ⟨by decide, by decide⟩ rfl hl.1 rfl (Nat.le_of_ble_eq_true rfl) d_p6m10_25 ⟨by decide, by decide⟩ (fun r48 h49 H locs hp50 w => ?_)
      refine W.widen (k := 4) (n := 128) (by decide) (by decide) ?_
      obtain ⟨e51, rfl⟩ := hp50
      refine pd_beq (tgt := 35) hx hb d_p6m10_28 (by decide) (fun q52 => ?_) (fun q52 => ?_)
      · -- taken: 35
        refine lv_iconst (v := nI 0) hx hb d_p6m10_35 (by decide) ?_
        refine W.eq (g2 := F0 m 36 ls [.int (pd_b false)]) rfl ?_
        exact pd_zret (v := false) X w ⟨(gr_mem_f3 (by rw [← e33, ← e51]; exact q52)).symm, pd_kx.tr (k4) (k31)⟩ (by decide) (by decide) d_p6m10_36
      · -- not taken: 31
        refine lv_iconst (v := nI 1) hx hb d_p6m10_31 (by decide) ?_
        refine lv_goto (tgt := 36) hx hb d_p6m10_32 (by decide) ?_
        refine W.eq (g2 := F0 m 36 ls [.int (pd_b true)]) rfl ?_
        exact pd_zret (v := true) X w ⟨(gr_mem_t (by rw [← e6]; omega) (by rw [← e6, ← e26]; exact q27) (by rw [← e33, ← e51]; exact q52)).symm, pd_kx.tr (k4) (k31)⟩ (by decide) (by decide) d_p6m10_36
def gr_at (cs : List Nat) (i x : Nat) : Bool := decide (i < cs.length ∧ cs.getD i 0 = x)
theorem d_p6m14_0 : decode prog_6_method_14_code 0 = .ok (.iload_n 1, 1) := by decide +kernel
theorem d_p6m14_1 : decode prog_6_method_14_code 1 = .ok (.ifCond .lt 24, 3) := by decide +kernel
theorem d_p6m14_4 : decode prog_6_method_14_code 4 = .ok (.iload_n 1, 1) := by decide +kernel
theorem d_p6m14_5 : decode prog_6_method_14_code 5 = .ok (.aload_n 0, 1) := by decide +kernel
theorem d_p6m14_6 : decode prog_6_method_14_code 6 = .ok (.invokevirtual 69, 3) := by decide +kernel
theorem d_p6m14_9 : decode prog_6_method_14_code 9 = .ok (.if_icmp .ge 16, 3) := by decide +kernel
theorem d_p6m14_12 : decode prog_6_method_14_code 12 = .ok (.aload_n 0, 1) := by decide +kernel
theorem d_p6m14_13 : decode prog_6_method_14_code 13 = .ok (.iload_n 1, 1) := by decide +kernel
theorem d_p6m14_14 : decode prog_6_method_14_code 14 = .ok (.invokevirtual 72, 3) := by decide +kernel
theorem d_p6m14_17 : decode prog_6_method_14_code 17 = .ok (.iload_n 2, 1) := by decide +kernel
theorem d_p6m14_18 : decode prog_6_method_14_code 18 = .ok (.if_icmp .ne 7, 3) := by decide +kernel
theorem d_p6m14_21 : decode prog_6_method_14_code 21 = .ok (.iconst 1, 1) := by decide +kernel
theorem d_p6m14_22 : decode prog_6_method_14_code 22 = .ok (.goto 4, 3) := by decide +kernel
theorem d_p6m14_25 : decode prog_6_method_14_code 25 = .ok (.iconst 0, 1) := by decide +kernel
theorem d_p6m14_26 : decode prog_6_method_14_code 26 = .ok (.ireturn, 1) := by decide +kernel
abbrev y_Grammar_isAt : MethodName := ⟨"PolicyDesk$Grammar", "isAt", "(Ljava/lang/String;IC)Z"⟩
theorem ok_Grammar_isAt : pd_ok y_Grammar_isAt prog_6_method_14_code 3 (some .boolean) 3 := ⟨mT_742, mT_25, by decide, by decide +kernel⟩
abbrev rm_Grammar_isAt : Room := { frames := 4, cells := 0, slots := 0, locals := 85 }
set_option maxHeartbeats 4000000 in
set_option maxRecDepth 100000 in
theorem c_Grammar_isAt (l : Launch) (G : pd_G) (h : pd_H) {a : Nat} {cs : List Nat} {i ch : Nat} (hS : pd_Str h a cs) (hi : i ≤ 1000) (hch : ch < 256) : pd_M l y_Grammar_isAt prog_6_method_14_code 3 (some .boolean) rm_Grammar_isAt G h [.ref a, .int (nI i), .int (nI ch)] pd_vb (fun r h1 => r = gr_at cs i ch ∧ h = h1) := by
  refine pd_M.of (by decide) (Nat.le_of_ble_eq_true rfl) ?_
  intro p e s m below meth c X hmn w ls hl
  have hx := X.1
  have hb := X.2.1
  have hl : lv_has ls 3 [(0, .ref a), (1, .int (nI i)), (2, .int (nI ch))] := hl
  obtain ⟨v1, f1, hv1, hv2, hvf, hvc, hvl⟩ := id hS
  refine lv_iload_n hx hb d_p6m14_0 rfl (lv_at hl 1 rfl) ?_
  refine pd_zlt (tgt := 25) hx hb d_p6m14_1 (by decide) (by omega) ?_
  refine lv_iload_n hx hb d_p6m14_4 rfl (lv_at hl 1 rfl) ?_
  refine lv_aload_n hx hb d_p6m14_5 rfl (lv_at hl 0 rfl) ?_
  refine pd_cV (a := a) (As := []) (rest := [.int (nI i)]) X w hv1 rfl (c_String_length l G h (by assumption)) ok_String_length ⟨mT_93, mT_94⟩ mT_638 ⟨by decide, by decide⟩ rfl hl.1 rfl (Nat.le_of_ble_eq_true rfl) d_p6m14_6 ⟨by decide, by decide⟩ (fun r2 h3 H locs hp4 w => ?_)
  refine W.widen (k := 0) (n := 0) (by decide) (by decide) ?_
  obtain ⟨e5, rfl⟩ := hp4
  refine pd_jge (tgt := 25) hx hb d_p6m14_9 (by decide) (by omega) (by omega) (fun q6 => ?_) (fun q6 => ?_)
  · -- taken: 25
    refine lv_iconst (v := nI 0) hx hb d_p6m14_25 (by decide) ?_
    refine W.eq (g2 := F0 m 26 ls [.int (pd_b false)]) rfl ?_
    exact pd_zret (v := false) X w ⟨by unfold gr_at; first | exact (decide_eq_true (by omega)).symm | exact (decide_eq_false (by omega)).symm, rfl⟩ (by decide) (by decide) d_p6m14_26
  · -- not taken: 12
    refine lv_aload_n hx hb d_p6m14_12 rfl (lv_at hl 0 rfl) ?_
    refine lv_iload_n hx hb d_p6m14_13 rfl (lv_at hl 1 rfl) ?_
    refine pd_cV (a := a) (As := [.int (nI i)]) (rest := []) X w hv1 rfl (c_String_charAt l G h (by assumption) (by omega)) ok_String_charAt ⟨mT_102, mT_103⟩ mT_639 ⟨by decide, by decide⟩ rfl hl.1 rfl (Nat.le_of_ble_eq_true rfl) d_p6m14_14 ⟨by decide, by decide⟩ (fun r7 h8 H locs hp9 w => ?_)
    refine W.widen (k := 0) (n := 0) (by decide) (by decide) ?_
    obtain ⟨e10, lt11, rfl⟩ := hp9
    refine lv_iload_n hx hb d_p6m14_17 rfl (lv_at hl 2 rfl) ?_
    refine pd_jne (tgt := 25) hx hb d_p6m14_18 (by decide) (by omega) (by omega) (fun q12 => ?_) (fun q12 => ?_)
    · -- taken: 25
      refine lv_iconst (v := nI 0) hx hb d_p6m14_25 (by decide) ?_
      refine W.eq (g2 := F0 m 26 ls [.int (pd_b false)]) rfl ?_
      exact pd_zret (v := false) X w ⟨by unfold gr_at; first | exact (decide_eq_true (by omega)).symm | exact (decide_eq_false (by omega)).symm, rfl⟩ (by decide) (by decide) d_p6m14_26
    · -- not taken: 21
      refine lv_iconst (v := nI 1) hx hb d_p6m14_21 (by decide) ?_
      refine lv_goto (tgt := 26) hx hb d_p6m14_22 (by decide) ?_
      refine W.eq (g2 := F0 m 26 ls [.int (pd_b true)]) rfl ?_
      exact pd_zret (v := true) X w ⟨by unfold gr_at; first | exact (decide_eq_true (by omega)).symm | exact (decide_eq_false (by omega)).symm, rfl⟩ (by decide) (by decide) d_p6m14_26
/-- the end of a TYPE's NAME: up to the first ; -/
def gr_semi : List Nat → Nat → Option Nat
  | [], _ => none
  | x :: t, i => if x = 59 then some i else gr_semi t (i + 1)
theorem gr_semi_end {cs : List Nat} {i : Nat} (hi : cs.length ≤ i) : gr_semi (cs.drop i) i = none := by
  rw [List.drop_eq_nil_of_le hi]
  rfl
theorem gr_semi_y {cs : List Nat} {i : Nat} (hi : i < cs.length) (hx : cs.getD i 0 = 59) : gr_semi (cs.drop i) i = some i := by
  rw [tx_drop hi, gr_semi, if_pos hx]
theorem gr_semi_n {cs : List Nat} {i : Nat} (hi : i < cs.length) (hx : ¬ cs.getD i 0 = 59) : gr_semi (cs.drop i) i = gr_semi (cs.drop (i + 1)) (i + 1) := by
  rw [tx_drop hi, gr_semi, if_neg hx]
/-- the place behind the NAME and the ; that begin at x -/
def gr_nte (cs : List Nat) (x : Nat) : Option Nat := match gr_semi (cs.drop x) x with | none => none | some i => if gr_name (tx_sub cs x i) then some (i + 1) else none
theorem gr_nte_0 {cs : List Nat} {x i : Nat} (hs : gr_semi (cs.drop i) i = gr_semi (cs.drop x) x) (hi : cs.length ≤ i) : gr_nte cs x = none := by
  unfold gr_nte
  rw [← hs, gr_semi_end hi]
theorem gr_nte_1 {cs : List Nat} {x i : Nat} {b : Bool} (hs : gr_semi (cs.drop i) i = gr_semi (cs.drop x) x) (hi : i < cs.length) (hx : cs.getD i 0 = 59) (hb : b = gr_name (tx_sub cs x i)) : gr_nte cs x = if b then some (i + 1) else none := by
  unfold gr_nte
  rw [← hs, gr_semi_y hi hx, hb]
theorem d_p6m16_0 : decode prog_6_method_16_code 0 = .ok (.iload_n 1, 1) := by decide +kernel
theorem d_p6m16_1 : decode prog_6_method_16_code 1 = .ok (.istore_n 2, 1) := by decide +kernel
theorem d_p6m16_2 : decode prog_6_method_16_code 2 = .ok (.iload_n 2, 1) := by decide +kernel
theorem d_p6m16_3 : decode prog_6_method_16_code 3 = .ok (.aload_n 0, 1) := by decide +kernel
theorem d_p6m16_4 : decode prog_6_method_16_code 4 = .ok (.invokevirtual 69, 3) := by decide +kernel
theorem d_p6m16_7 : decode prog_6_method_16_code 7 = .ok (.if_icmp .ge 19, 3) := by decide +kernel
theorem d_p6m16_10 : decode prog_6_method_16_code 10 = .ok (.aload_n 0, 1) := by decide +kernel
theorem d_p6m16_11 : decode prog_6_method_16_code 11 = .ok (.iload_n 2, 1) := by decide +kernel
theorem d_p6m16_12 : decode prog_6_method_16_code 12 = .ok (.invokevirtual 72, 3) := by decide +kernel
theorem d_p6m16_15 : decode prog_6_method_16_code 15 = .ok (.bipush 59, 2) := by decide +kernel
theorem d_p6m16_17 : decode prog_6_method_16_code 17 = .ok (.if_icmp .eq 9, 3) := by decide +kernel
theorem d_p6m16_20 : decode prog_6_method_16_code 20 = .ok (.iinc 2 1, 3) := by decide +kernel
theorem d_p6m16_23 : decode prog_6_method_16_code 23 = .ok (.goto (-21), 3) := by decide +kernel
theorem d_p6m16_26 : decode prog_6_method_16_code 26 = .ok (.iload_n 2, 1) := by decide +kernel
theorem d_p6m16_27 : decode prog_6_method_16_code 27 = .ok (.aload_n 0, 1) := by decide +kernel
theorem d_p6m16_28 : decode prog_6_method_16_code 28 = .ok (.invokevirtual 69, 3) := by decide +kernel
theorem d_p6m16_31 : decode prog_6_method_16_code 31 = .ok (.if_icmp .ge 21, 3) := by decide +kernel
theorem d_p6m16_34 : decode prog_6_method_16_code 34 = .ok (.aload_n 0, 1) := by decide +kernel
theorem d_p6m16_35 : decode prog_6_method_16_code 35 = .ok (.iload_n 1, 1) := by decide +kernel
theorem d_p6m16_36 : decode prog_6_method_16_code 36 = .ok (.iload_n 2, 1) := by decide +kernel
theorem d_p6m16_37 : decode prog_6_method_16_code 37 = .ok (.invokevirtual 88, 3) := by decide +kernel
theorem d_p6m16_40 : decode prog_6_method_16_code 40 = .ok (.invokestatic 55, 3) := by decide +kernel
theorem d_p6m16_43 : decode prog_6_method_16_code 43 = .ok (.ifCond .eq 9, 3) := by decide +kernel
theorem d_p6m16_46 : decode prog_6_method_16_code 46 = .ok (.iload_n 2, 1) := by decide +kernel
theorem d_p6m16_47 : decode prog_6_method_16_code 47 = .ok (.iconst 1, 1) := by decide +kernel
theorem d_p6m16_48 : decode prog_6_method_16_code 48 = .ok (.iadd, 1) := by decide +kernel
theorem d_p6m16_49 : decode prog_6_method_16_code 49 = .ok (.goto 4, 3) := by decide +kernel
theorem d_p6m16_52 : decode prog_6_method_16_code 52 = .ok (.iconst (-1), 1) := by decide +kernel
theorem d_p6m16_53 : decode prog_6_method_16_code 53 = .ok (.ireturn, 1) := by decide +kernel
abbrev y_Grammar_nameTypeEnd : MethodName := ⟨"PolicyDesk$Grammar", "nameTypeEnd", "(Ljava/lang/String;I)I"⟩
theorem ok_Grammar_nameTypeEnd : pd_ok y_Grammar_nameTypeEnd prog_6_method_16_code 3 (some .int) 2 := ⟨mT_725, mT_25, by decide, by decide +kernel⟩
abbrev rm_Grammar_nameTypeEnd : Room := { frames := 5, cells := 2, slots := 64, locals := 132 }
set_option maxHeartbeats 4000000 in
set_option maxRecDepth 100000 in
theorem lp_Grammar_nameTypeEnd_2 (l : Launch) (G : pd_G) (h : pd_H) {a : Nat} {cs : List Nat} {x : Nat} (hS : pd_Str h a cs) (hx1 : x ≤ 1000) {p : Program} {e : Env} {s : State} {m : MethodId} {below : List Frame} {meth : Method} {c : Code} (X : pd_B p s m [.ref a, .int (nI x)].toArray meth c G y_Grammar_nameTypeEnd.cls prog_6_method_16_code 3 (some .int)) (hmn : meth.name = y_Grammar_nameTypeEnd.name) :
    ∀ (kk9 : Nat) (i : Nat), (i ≤ 1000) → (x ≤ i) → (gr_semi (cs.drop i) i = gr_semi (cs.drop x) x) → 1000 - i < kk9 → ∀ (H : Heap) (locs : List Loc), pd_w G s H locs h → ∀ ls : Array Slot, lv_has ls 3 [(2, .int (nI i)), (0, .ref a), (1, .int (nI x))] → W p l e rm_Grammar_nameTypeEnd s m [.ref a, .int (nI x)].toArray below meth c H locs 0 0 (MQ below (pd_Q G pd_vm (fun r h1 => r = gr_nte cs x ∧ pd_kx [] h h1)) [.ref a, .int (nI x)].toArray s rm_Grammar_nameTypeEnd.cells rm_Grammar_nameTypeEnd.slots (fun q => G.2.1 ≤ q)) (F0 m 2 ls []) := by
  have hx := X.1
  have hb := X.2.1
  obtain ⟨v1, f1, hv1, hv2, hvf, hvc, hvl⟩ := id hS
  intro kk9
  induction kk9 with
  | zero => intros; omega
  | succ kk9 ih =>
    intro i hi hxi hs hmu H locs w ls hl
    refine lv_iload_n hx hb d_p6m16_2 rfl (lv_at hl 0 rfl) ?_
    refine lv_aload_n hx hb d_p6m16_3 rfl (lv_at hl 1 rfl) ?_
    refine pd_cV (a := a) (As := []) (rest := [.int (nI i)]) X w hv1 rfl (c_String_length l G h (by assumption)) ok_String_length ⟨mT_93, mT_94⟩ mT_638 ⟨by decide, by decide⟩ rfl hl.1 rfl (Nat.le_of_ble_eq_true rfl) d_p6m16_4 ⟨by decide, by decide⟩ (fun r1 h2 H locs hp3 w => ?_)
    refine W.widen (k := 0) (n := 0) (by decide) (by decide) ?_
    obtain ⟨e4, rfl⟩ := hp3
    refine pd_jge (tgt := 26) hx hb d_p6m16_7 (by decide) (by omega) (by omega) (fun q5 => ?_) (fun q5 => ?_)
    · -- taken: 26
      refine lv_iload_n hx hb d_p6m16_26 rfl (lv_at hl 0 rfl) ?_
      refine lv_aload_n hx hb d_p6m16_27 rfl (lv_at hl 1 rfl) ?_
      refine pd_cV (a := a) (As := []) (rest := [.int (nI i)]) X w hv1 rfl (c_String_length l G h (by assumption)) ok_String_length ⟨mT_93, mT_94⟩ mT_638 ⟨by decide, by decide⟩ rfl hl.1 rfl (Nat.le_of_ble_eq_true rfl) d_p6m16_28 ⟨by decide, by decide⟩ (fun r6 h7 H locs hp8 w => ?_)
      refine W.widen (k := 0) (n := 0) (by decide) (by decide) ?_
      obtain ⟨e9, rfl⟩ := hp8
      refine pd_jge (tgt := 52) hx hb d_p6m16_31 (by decide) (by omega) (by omega) (fun q10 => ?_) (fun q10 => ?_)
      · -- taken: 52
        refine lv_iconst (v := -1) hx hb d_p6m16_52 (by decide) ?_
        refine W.eq (g2 := F0 m 53 ls [.int (pd_m none)]) rfl ?_
        exact pd_mret (v := none) X w ⟨(gr_nte_0 hs (by omega)).symm, pd_kx.rf⟩ (by decide) (by decide) d_p6m16_53
      · -- not taken: 34
        refine lv_aload_n hx hb d_p6m16_34 rfl (lv_at hl 1 rfl) ?_
        refine lv_iload_n hx hb d_p6m16_35 rfl (lv_at hl 2 rfl) ?_
        refine lv_iload_n hx hb d_p6m16_36 rfl (lv_at hl 0 rfl) ?_
        refine pd_cV (a := a) (As := [.int (nI x), .int (nI i)]) (rest := []) X w hv1 rfl (c_String_substring2 l G h (by assumption) (by omega) (by omega)) ok_String_substring2 ⟨mT_579, mT_580⟩ mT_716 ⟨by decide, by decide⟩ rfl hl.1 rfl (Nat.le_of_ble_eq_true rfl) d_p6m16_37 ⟨by decide, by decide⟩ (fun r11 h12 H locs hp13 w => ?_)
        refine W.widen (k := 2) (n := 64) (by decide) (by decide) ?_
        obtain ⟨k14, ds15, e16, f17⟩ := hp13
        have f25 := k14 _ _ hv1 List.not_mem_nil
        have f26 := k14 _ _ hv2 List.not_mem_nil
        have f27 := hS.kx k14 List.not_mem_nil
        obtain ⟨v18, g19, f20, f21, gf22, gc23, gl24⟩ := id f17
        refine pd_cS (As := [.ref r11]) (rest := []) X w (c_Grammar_isName l G h12 (by assumption)) ok_Grammar_isName mT_636 mT_635 ⟨by decide, by decide⟩ rfl hl.1 rfl (Nat.le_of_ble_eq_true rfl) d_p6m16_40 ⟨by decide, by decide⟩ (fun r28 h29 H locs hp30 w => ?_)
        refine W.widen (k := 2) (n := 64) (by decide) (by decide) ?_
        obtain ⟨e31, rfl⟩ := hp30
        refine pd_beq (tgt := 52) hx hb d_p6m16_43 (by decide) (fun q32 => ?_) (fun q32 => ?_)
        · -- taken: 52
          refine lv_iconst (v := -1) hx hb d_p6m16_52 (by decide) ?_
          refine W.eq (g2 := F0 m 53 ls [.int (pd_m none)]) rfl ?_
          exact pd_mret (v := none) X w ⟨by rw [gr_nte_1 hs (by omega) (by omega) (show r28 = _ by rw [e31, e16]), q32]; rfl, k14⟩ (by decide) (by decide) d_p6m16_53
        · -- not taken: 46
          refine lv_iload_n hx hb d_p6m16_46 rfl (lv_at hl 0 rfl) ?_
          refine lv_iconst (v := nI 1) hx hb d_p6m16_47 (by decide) ?_
          refine pd_iadd hx hb d_p6m16_48 ?_
          refine lv_goto (tgt := 53) hx hb d_p6m16_49 (by decide) ?_
          refine W.eq (g2 := F0 m 53 ls [.int (pd_m (some (i + 1)))]) rfl ?_
          exact pd_mret (v := (some (i + 1))) X w ⟨by rw [gr_nte_1 hs (by omega) (by omega) (show r28 = _ by rw [e31, e16]), q32]; rfl, k14⟩ (by decide) (by decide) d_p6m16_53
    · -- not taken: 10
      refine lv_aload_n hx hb d_p6m16_10 rfl (lv_at hl 1 rfl) ?_
      refine lv_iload_n hx hb d_p6m16_11 rfl (lv_at hl 0 rfl) ?_
      refine pd_cV (a := a) (As := [.int (nI i)]) (rest := []) X w hv1 rfl (c_String_charAt l G h (by assumption) (by omega)) ok_String_charAt ⟨mT_102, mT_103⟩ mT_639 ⟨by decide, by decide⟩ rfl hl.1 rfl (Nat.le_of_ble_eq_true rfl) d_p6m16_12 ⟨by decide, by decide⟩ (fun r33 h34 H locs hp35 w => ?_)
      refine W.widen (k := 0) (n := 0) (by decide) (by decide) ?_
      obtain ⟨e36, lt37, rfl⟩ := hp35
      refine lv_bipush (v := nI 59) hx hb d_p6m16_15 (by decide) ?_
      refine pd_jeq (tgt := 26) hx hb d_p6m16_17 (by decide) (by omega) (by omega) (fun q38 => ?_) (fun q38 => ?_)
      · -- taken: 26
        refine lv_iload_n hx hb d_p6m16_26 rfl (lv_at hl 0 rfl) ?_
        refine lv_aload_n hx hb d_p6m16_27 rfl (lv_at hl 1 rfl) ?_
        refine pd_cV (a := a) (As := []) (rest := [.int (nI i)]) X w hv1 rfl (c_String_length l G h (by assumption)) ok_String_length ⟨mT_93, mT_94⟩ mT_638 ⟨by decide, by decide⟩ rfl hl.1 rfl (Nat.le_of_ble_eq_true rfl) d_p6m16_28 ⟨by decide, by decide⟩ (fun r39 h40 H locs hp41 w => ?_)
        refine W.widen (k := 0) (n := 0) (by decide) (by decide) ?_
        obtain ⟨e42, rfl⟩ := hp41
        refine pd_jge (tgt := 52) hx hb d_p6m16_31 (by decide) (by omega) (by omega) (fun q43 => ?_) (fun q43 => ?_)
        · -- taken: 52
          refine lv_iconst (v := -1) hx hb d_p6m16_52 (by decide) ?_
          refine W.eq (g2 := F0 m 53 ls [.int (pd_m none)]) rfl ?_
          exact pd_mret (v := none) X w ⟨(gr_nte_0 hs (by omega)).symm, pd_kx.rf⟩ (by decide) (by decide) d_p6m16_53
        · -- not taken: 34
          refine lv_aload_n hx hb d_p6m16_34 rfl (lv_at hl 1 rfl) ?_
          refine lv_iload_n hx hb d_p6m16_35 rfl (lv_at hl 2 rfl) ?_
          refine lv_iload_n hx hb d_p6m16_36 rfl (lv_at hl 0 rfl) ?_
          refine pd_cV (a := a) (As := [.int (nI x), .int (nI i)]) (rest := []) X w hv1 rfl (c_String_substring2 l G h (by assumption) (by omega) (by omega)) ok_String_substring2 ⟨mT_579, mT_580⟩ mT_716 ⟨by decide, by decide⟩ rfl hl.1 rfl (Nat.le_of_ble_eq_true rfl) d_p6m16_37 ⟨by decide, by decide⟩ (fun r44 h45 H locs hp46 w => ?_)
          refine W.widen (k := 2) (n := 64) (by decide) (by decide) ?_
          obtain ⟨k47, ds48, e49, f50⟩ := hp46
          have f58 := k47 _ _ hv1 List.not_mem_nil
          have f59 := k47 _ _ hv2 List.not_mem_nil
          have f60 := hS.kx k47 List.not_mem_nil
          obtain ⟨v51, g52, f53, f54, gf55, gc56, gl57⟩ := id f50
          refine pd_cS (As := [.ref r44]) (rest := []) X w (c_Grammar_isName l G h45 (by assumption)) ok_Grammar_isName mT_636 mT_635 ⟨by decide, by decide⟩ rfl hl.1 rfl (Nat.le_of_ble_eq_true rfl) d_p6m16_40 ⟨by decide, by decide⟩ (fun r61 h62 H locs hp63 w => ?_)
          refine W.widen (k := 2) (n := 64) (by decide) (by decide) ?_
          obtain ⟨e64, rfl⟩ := hp63
          refine pd_beq (tgt := 52) hx hb d_p6m16_43 (by decide) (fun q65 => ?_) (fun q65 => ?_)
          · -- taken: 52
            refine lv_iconst (v := -1) hx hb d_p6m16_52 (by decide) ?_
            refine W.eq (g2 := F0 m 53 ls [.int (pd_m none)]) rfl ?_
            exact pd_mret (v := none) X w ⟨by rw [gr_nte_1 hs (by omega) (by omega) (show r61 = _ by rw [e64, e49]), q65]; rfl, k47⟩ (by decide) (by decide) d_p6m16_53
          · -- not taken: 46
            refine lv_iload_n hx hb d_p6m16_46 rfl (lv_at hl 0 rfl) ?_
            refine lv_iconst (v := nI 1) hx hb d_p6m16_47 (by decide) ?_
            refine pd_iadd hx hb d_p6m16_48 ?_
            refine lv_goto (tgt := 53) hx hb d_p6m16_49 (by decide) ?_
            refine W.eq (g2 := F0 m 53 ls [.int (pd_m (some (i + 1)))]) rfl ?_
            exact pd_mret (v := (some (i + 1))) X w ⟨by rw [gr_nte_1 hs (by omega) (by omega) (show r61 = _ by rw [e64, e49]), q65]; rfl, k47⟩ (by decide) (by decide) d_p6m16_53
      · -- not taken: 20
        refine pd_iinc (k := 0) (d := 1) (lv' := [(2, .int (nI (i + 1))), (0, .ref a), (1, .int (nI x))]) hx hb d_p6m16_20 (by decide) hl rfl (by decide) rfl (fun ls hl => ?_)
        refine lv_goto (tgt := 2) hx hb d_p6m16_23 (by decide) ?_
        exact ih (i + 1) (by omega) (by omega) ((gr_semi_n (by omega) (by omega)).symm.trans hs) (by omega) _ _ w ls (lv_sub hl [0, 1, 2] rfl)
set_option maxHeartbeats 4000000 in
set_option maxRecDepth 100000 in
theorem c_Grammar_nameTypeEnd (l : Launch) (G : pd_G) (h : pd_H) {a : Nat} {cs : List Nat} {x : Nat} (hS : pd_Str h a cs) (hx1 : x ≤ 1000) : pd_M l y_Grammar_nameTypeEnd prog_6_method_16_code 3 (some .int) rm_Grammar_nameTypeEnd G h [.ref a, .int (nI x)] pd_vm (fun r h1 => r = gr_nte cs x ∧ pd_kx [] h h1) := by
  refine pd_M.of (by decide) (Nat.le_of_ble_eq_true rfl) ?_
  intro p e s m below meth c X hmn w ls hl
  have hx := X.1
  have hb := X.2.1
  have hl : lv_has ls 3 [(0, .ref a), (1, .int (nI x))] := hl
  obtain ⟨v1, f1, hv1, hv2, hvf, hvc, hvl⟩ := id hS
  refine lv_iload_n hx hb d_p6m16_0 rfl (lv_at hl 1 rfl) ?_
  refine lv_istore_n (lv' := [(2, .int (nI x)), (0, .ref a), (1, .int (nI x))]) hx hb d_p6m16_1 rfl hl (by decide) rfl (fun ls hl => ?_)
  exact lp_Grammar_nameTypeEnd_2 l G h hS hx1 X hmn (1000 + 1) x (by omega) (by omega) (rfl) (by omega) _ _ w ls (lv_sub hl [0, 1, 2] rfl)
