/-! THE REFERENCE: its object (mark 20) and its arrays (marks 30 and on); ad: the arrays' addresses by slot, fv: what they hold, iv: the int fields, tl: the total -/
abbrev pd_mv (ad : Nat → Nat) (iv : Nat → Int32) (tl : Int64) : List Value := [.ref (ad 0), .ref (ad 1), .ref (ad 2), .int (iv 3), .int (iv 4), .int (iv 5), .ref (ad 6), .ref (ad 7), .ref (ad 8), .ref (ad 9), .ref (ad 10), .ref (ad 11), .int (iv 12), .ref (ad 13), .ref (ad 14), .ref (ad 15), .ref (ad 16), .ref (ad 17), .ref (ad 18), .ref (ad 19), .int (iv 20), .ref (ad 21), .ref (ad 22), .ref (ad 23), .ref (ad 24), .ref (ad 25), .ref (ad 26), .ref (ad 27), .ref (ad 28), .int (iv 29), .ref (ad 30), .ref (ad 31), .int (iv 32), .int (iv 33), .int (iv 34), .int (iv 35), .long tl, .int (iv 37), .int (iv 38), .int (iv 39), .int (iv 40), .ref (ad 41), .ref (ad 42), .int (iv 43)]
def pd_mk : List Nat := [0, 1, 2, 6, 7, 8, 9, 10, 11, 13, 14, 15, 16, 17, 18, 19, 21, 22, 23, 24, 25, 26, 27, 28, 30, 31, 41, 42]
def pd_mty (k : Nat) : FieldType := if k = 11 ∨ k = 19 then .boolean else .int
def pd_mln (k : Nat) : Nat := ([60, 40, 40, 0, 0, 0, 336, 14, 14, 28, 14, 14, 0, 24, 24, 288, 24, 1440, 24, 24, 0, 24, 24, 576, 24, 24, 1440, 24, 24, 0, 1152, 12, 0, 0, 0, 0, 0, 0, 0, 0, 0, 16, 32, 0] : List Nat).getD k 0
def pd_MO (G : pd_G) (h : pd_H) (y : Nat) (ad : Nat → Nat) (fv : Nat → Nat → Int32) (iv : Nat → Int32) (tl : Int64) : Prop := h y = some (20, .inr (10, pd_mv ad iv tl)) ∧ G.2.1 ≤ y ∧ ∀ j ∈ pd_mk, h (ad j) = some (30 + j, .inl (pd_mty j, pd_mln j, .inl (fv j))) ∧ G.2.1 ≤ ad j
theorem pd_MO.of {G : pd_G} {h h1 : pd_H} {y : Nat} {ad : Nat → Nat} {fv fv2 : Nat → Nat → Int32} {iv iv2 : Nat → Int32} {tl tl2 : Int64} {ts : List Nat} (q : pd_MO G h y ad fv iv tl) (k : pd_kx ts h h1) (hy : h1 y = some (20, .inr (10, pd_mv ad iv2 tl2))) (ha : ∀ j ∈ pd_mk, h1 (ad j) = some (30 + j, .inl (pd_mty j, pd_mln j, .inl (fv2 j))) ∨ (30 + j ∉ ts ∧ fv2 j = fv j)) : pd_MO G h1 y ad fv2 iv2 tl2 := by
  refine ⟨hy, q.2.1, fun j hj => ⟨?_, (q.2.2 j hj).2⟩⟩
  rcases ha j hj with z | ⟨z1, z2⟩
  · exact z
  · rw [z2]
    exact k _ _ (q.2.2 j hj).1 z1
theorem pd_MO.kx {G : pd_G} {h h1 : pd_H} {y : Nat} {ad : Nat → Nat} {fv : Nat → Nat → Int32} {iv : Nat → Int32} {tl : Int64} {ts : List Nat} (q : pd_MO G h y ad fv iv tl) (k : pd_kx ts h h1) (hn : ∀ t ∈ ts, t < 20) : pd_MO G h1 y ad fv iv tl := pd_MO.of q k (k _ _ q.1 (fun z => by have := hn _ z; omega)) (fun j _ => Or.inr ⟨fun z => by have := hn _ z; omega, rfl⟩)
/-- the letters -/
def gm_L (fv : Nat → Nat → Int32) (iv : Nat → Int32) (cs : List Nat) : Prop := iv 3 = nI cs.length ∧ (∀ i, i < cs.length → fv 0 i = nI (cs.getD i 0)) ∧ cs.length ≤ 60 ∧ ∀ x ∈ cs, x < 256
/-- behind the letters of a PART -/
def gm_bp (cs : List Nat) (to : Nat) : Nat → Nat → Nat
  | 0, x => x
  | n + 1, x => if x < to ∧ gr_pl (cs.getD x 0) = true then gm_bp cs to n (x + 1) else x
theorem gm_bp_s {cs : List Nat} {to x : Nat} (h : x < to) (hp : gr_pl (cs.getD x 0) = true) : gm_bp cs to (to - x) x = gm_bp cs to (to - (x + 1)) (x + 1) := by
  rw [show to - x = (to - (x + 1)) + 1 by omega, gm_bp, if_pos ⟨h, hp⟩]
theorem gm_bp_n {cs : List Nat} {to x n : Nat} (h : ¬ (x < to ∧ gr_pl (cs.getD x 0) = true)) : gm_bp cs to n x = x := by
  cases n with
  | zero => rfl
  | succ n => rw [gm_bp, if_neg h]
theorem gm_bp_le {cs : List Nat} {to : Nat} : ∀ (n x : Nat), x ≤ to → x ≤ gm_bp cs to n x ∧ gm_bp cs to n x ≤ to
  | 0, x, h => ⟨Nat.le_refl _, h⟩
  | n + 1, x, h => by
    rw [gm_bp]
    split
    · rename_i z
      have := gm_bp_le (cs := cs) (to := to) n (x + 1) (by omega)
      omega
    · exact ⟨Nat.le_refl _, h⟩
def gm_part (cs : List Nat) (x to : Nat) : Nat := gm_bp cs to (to - x) x
/-- behind the letters of a NAME -/
def gm_bn (cs : List Nat) (to x0 : Nat) : Nat → Nat → Nat
  | 0, k => k
  | n + 1, k => if x0 < k ∧ k + 1 < to ∧ cs.getD k 0 = 47 ∧ gr_pl (cs.getD (k + 1) 0) = true then gm_bn cs to x0 n (gm_part cs (k + 1) to) else k
def gm_name (cs : List Nat) (x to : Nat) : Nat := if 24 < gm_bn cs to x to (gm_part cs x to) - x then x else gm_bn cs to x to (gm_part cs x to)
theorem gm_bn_s {cs : List Nat} {to x0 n k : Nat} (h : x0 < k ∧ k + 1 < to ∧ cs.getD k 0 = 47 ∧ gr_pl (cs.getD (k + 1) 0) = true) (hn : 0 < n) : gm_bn cs to x0 n k = gm_bn cs to x0 (n - 1) (gm_part cs (k + 1) to) := by
  obtain ⟨n, rfl⟩ : ∃ z, n = z + 1 := ⟨n - 1, by omega⟩
  rw [gm_bn, if_pos h]
  rfl
theorem gm_bn_n {cs : List Nat} {to x0 n k : Nat} (h : ¬ (x0 < k ∧ k + 1 < to ∧ cs.getD k 0 = 47 ∧ gr_pl (cs.getD (k + 1) 0) = true)) : gm_bn cs to x0 n k = k := by
  cases n with
  | zero => rfl
  | succ n => rw [gm_bn, if_neg h]
theorem gm_part_le {cs : List Nat} {x to : Nat} (h : x ≤ to) : x ≤ gm_part cs x to ∧ gm_part cs x to ≤ to := gm_bp_le _ _ h
theorem d_p15m3_0 : decode prog_15_method_3_code 0 = .ok (.iload_n 0, 1) := by decide +kernel
theorem d_p15m3_1 : decode prog_15_method_3_code 1 = .ok (.iload_n 1, 1) := by decide +kernel
theorem d_p15m3_2 : decode prog_15_method_3_code 2 = .ok (.if_icmp .lt 12, 3) := by decide +kernel
theorem d_p15m3_5 : decode prog_15_method_3_code 5 = .ok (.iload_n 0, 1) := by decide +kernel
theorem d_p15m3_6 : decode prog_15_method_3_code 6 = .ok (.iload_n 2, 1) := by decide +kernel
theorem d_p15m3_7 : decode prog_15_method_3_code 7 = .ok (.if_icmp .gt 7, 3) := by decide +kernel
theorem d_p15m3_10 : decode prog_15_method_3_code 10 = .ok (.iconst 1, 1) := by decide +kernel
theorem d_p15m3_11 : decode prog_15_method_3_code 11 = .ok (.goto 4, 3) := by decide +kernel
theorem d_p15m3_14 : decode prog_15_method_3_code 14 = .ok (.iconst 0, 1) := by decide +kernel
theorem d_p15m3_15 : decode prog_15_method_3_code 15 = .ok (.ireturn, 1) := by decide +kernel
abbrev y_Mod_in : MethodName := ⟨"PolicyDeskModel", "in", "(III)Z"⟩
theorem ok_Mod_in : pd_ok y_Mod_in prog_15_method_3_code 3 (some .boolean) 3 := ⟨mT_1279, mT_21, by decide, by decide +kernel⟩
abbrev rm_Mod_in : Room := { frames := 0, cells := 0, slots := 0, locals := 0 }
set_option maxHeartbeats 4000000 in
set_option maxRecDepth 100000 in
theorem c_Mod_in (l : Launch) (G : pd_G) (h : pd_H) {x a b : Nat} (hx9 : x < 2 ^ 31) (ha9 : a < 2 ^ 31) (hb9 : b < 2 ^ 31) : pd_M l y_Mod_in prog_15_method_3_code 3 (some .boolean) rm_Mod_in G h [.int (nI x), .int (nI a), .int (nI b)] pd_vb (fun r h1 => r = decide (a ≤ x ∧ x ≤ b) ∧ h = h1) := by
  refine pd_M.of (by decide) (Nat.le_of_ble_eq_true rfl) ?_
  intro p e s m below meth c X hmn w ls hl
  have hx := X.1
  have hb := X.2.1
  have hl : lv_has ls 3 [(0, .int (nI x)), (1, .int (nI a)), (2, .int (nI b))] := hl
  refine lv_iload_n hx hb d_p15m3_0 rfl (lv_at hl 0 rfl) ?_
  refine lv_iload_n hx hb d_p15m3_1 rfl (lv_at hl 1 rfl) ?_
  refine pd_jlt (tgt := 14) hx hb d_p15m3_2 (by decide) (by omega) (by omega) (fun q1 => ?_) (fun q1 => ?_)
  · -- taken: 14
    refine lv_iconst (v := nI 0) hx hb d_p15m3_14 (by decide) ?_
    refine W.eq (g2 := F0 m 15 ls [.int (pd_b false)]) rfl ?_
    exact pd_zret (v := false) X w ⟨by first | exact (decide_eq_true (by omega)).symm | exact (decide_eq_false (by omega)).symm, rfl⟩ (by decide) (by decide) d_p15m3_15
  · -- not taken: 5
    refine lv_iload_n hx hb d_p15m3_5 rfl (lv_at hl 0 rfl) ?_
    refine lv_iload_n hx hb d_p15m3_6 rfl (lv_at hl 2 rfl) ?_
    refine pd_jgt (tgt := 14) hx hb d_p15m3_7 (by decide) (by omega) (by omega) (fun q2 => ?_) (fun q2 => ?_)
    · -- taken: 14
      refine lv_iconst (v := nI 0) hx hb d_p15m3_14 (by decide) ?_
      refine W.eq (g2 := F0 m 15 ls [.int (pd_b false)]) rfl ?_
      exact pd_zret (v := false) X w ⟨by first | exact (decide_eq_true (by omega)).symm | exact (decide_eq_false (by omega)).symm, rfl⟩ (by decide) (by decide) d_p15m3_15
    · -- not taken: 10
      refine lv_iconst (v := nI 1) hx hb d_p15m3_10 (by decide) ?_
      refine lv_goto (tgt := 15) hx hb d_p15m3_11 (by decide) ?_
      refine W.eq (g2 := F0 m 15 ls [.int (pd_b true)]) rfl ?_
      exact pd_zret (v := true) X w ⟨by first | exact (decide_eq_true (by omega)).symm | exact (decide_eq_false (by omega)).symm, rfl⟩ (by decide) (by decide) d_p15m3_15
abbrev y_Mod_inI : MethodName := ⟨"PolicyDeskModel", "in", "(III)Z"⟩
theorem ok_Mod_inI : pd_ok y_Mod_inI prog_15_method_3_code 3 (some .boolean) 3 := ⟨mT_1279, mT_21, by decide, by decide +kernel⟩
abbrev rm_Mod_inI : Room := { frames := 0, cells := 0, slots := 0, locals := 0 }
set_option maxHeartbeats 4000000 in
set_option maxRecDepth 100000 in
theorem c_Mod_inI (l : Launch) (G : pd_G) (h : pd_H) {x a b : Int32} : pd_M l y_Mod_inI prog_15_method_3_code 3 (some .boolean) rm_Mod_inI G h [.int x, .int a, .int b] pd_vb (fun r h1 => r = decide (¬ x < a ∧ ¬ b < x) ∧ h = h1) := by
  refine pd_M.of (by decide) (Nat.le_of_ble_eq_true rfl) ?_
  intro p e s m below meth c X hmn w ls hl
  have hx := X.1
  have hb := X.2.1
  have hl : lv_has ls 3 [(0, .int x), (1, .int a), (2, .int b)] := hl
  refine lv_iload_n hx hb d_p15m3_0 rfl (lv_at hl 0 rfl) ?_
  refine lv_iload_n hx hb d_p15m3_1 rfl (lv_at hl 1 rfl) ?_
  refine lv_icmp_lt (tgt := 14) hx hb d_p15m3_2 (by decide) (fun q1 => ?_) (fun q1 => ?_)
  · -- taken: 14
    refine lv_iconst (v := nI 0) hx hb d_p15m3_14 (by decide) ?_
    refine W.eq (g2 := F0 m 15 ls [.int (pd_b false)]) rfl ?_
    exact pd_zret (v := false) X w ⟨(decide_eq_false (fun z => z.1 q1)).symm, rfl⟩ (by decide) (by decide) d_p15m3_15
  · -- not taken: 5
    refine lv_iload_n hx hb d_p15m3_5 rfl (lv_at hl 0 rfl) ?_
    refine lv_iload_n hx hb d_p15m3_6 rfl (lv_at hl 2 rfl) ?_
    refine lv_icmp_gt (tgt := 14) hx hb d_p15m3_7 (by decide) (fun q2 => ?_) (fun q2 => ?_)
    · -- taken: 14
      refine lv_iconst (v := nI 0) hx hb d_p15m3_14 (by decide) ?_
      refine W.eq (g2 := F0 m 15 ls [.int (pd_b false)]) rfl ?_
      exact pd_zret (v := false) X w ⟨(decide_eq_false (fun z => z.2 q2)).symm, rfl⟩ (by decide) (by decide) d_p15m3_15
    · -- not taken: 10
      refine lv_iconst (v := nI 1) hx hb d_p15m3_10 (by decide) ?_
      refine lv_goto (tgt := 15) hx hb d_p15m3_11 (by decide) ?_
      refine W.eq (g2 := F0 m 15 ls [.int (pd_b true)]) rfl ?_
      exact pd_zret (v := true) X w ⟨(decide_eq_true ⟨q1, q2⟩).symm, rfl⟩ (by decide) (by decide) d_p15m3_15
theorem d_p15m8_0 : decode prog_15_method_8_code 0 = .ok (.iload_n 0, 1) := by decide +kernel
theorem d_p15m8_1 : decode prog_15_method_8_code 1 = .ok (.bipush 97, 2) := by decide +kernel
theorem d_p15m8_3 : decode prog_15_method_8_code 3 = .ok (.bipush 122, 2) := by decide +kernel
theorem d_p15m8_5 : decode prog_15_method_8_code 5 = .ok (.invokestatic 109, 3) := by decide +kernel
theorem d_p15m8_8 : decode prog_15_method_8_code 8 = .ok (.ifCond .ne 37, 3) := by decide +kernel
theorem d_p15m8_11 : decode prog_15_method_8_code 11 = .ok (.iload_n 0, 1) := by decide +kernel
theorem d_p15m8_12 : decode prog_15_method_8_code 12 = .ok (.bipush 65, 2) := by decide +kernel
theorem d_p15m8_14 : decode prog_15_method_8_code 14 = .ok (.bipush 90, 2) := by decide +kernel
theorem d_p15m8_16 : decode prog_15_method_8_code 16 = .ok (.invokestatic 109, 3) := by decide +kernel
theorem d_p15m8_19 : decode prog_15_method_8_code 19 = .ok (.ifCond .ne 26, 3) := by decide +kernel
theorem d_p15m8_22 : decode prog_15_method_8_code 22 = .ok (.iload_n 0, 1) := by decide +kernel
theorem d_p15m8_23 : decode prog_15_method_8_code 23 = .ok (.bipush 48, 2) := by decide +kernel
theorem d_p15m8_25 : decode prog_15_method_8_code 25 = .ok (.bipush 57, 2) := by decide +kernel
theorem d_p15m8_27 : decode prog_15_method_8_code 27 = .ok (.invokestatic 109, 3) := by decide +kernel
theorem d_p15m8_30 : decode prog_15_method_8_code 30 = .ok (.ifCond .ne 15, 3) := by decide +kernel
theorem d_p15m8_33 : decode prog_15_method_8_code 33 = .ok (.iload_n 0, 1) := by decide +kernel
theorem d_p15m8_34 : decode prog_15_method_8_code 34 = .ok (.bipush 95, 2) := by decide +kernel
theorem d_p15m8_36 : decode prog_15_method_8_code 36 = .ok (.if_icmp .eq 9, 3) := by decide +kernel
theorem d_p15m8_39 : decode prog_15_method_8_code 39 = .ok (.iload_n 0, 1) := by decide +kernel
theorem d_p15m8_40 : decode prog_15_method_8_code 40 = .ok (.bipush 36, 2) := by decide +kernel
theorem d_p15m8_42 : decode prog_15_method_8_code 42 = .ok (.if_icmp .ne 7, 3) := by decide +kernel
theorem d_p15m8_45 : decode prog_15_method_8_code 45 = .ok (.iconst 1, 1) := by decide +kernel
theorem d_p15m8_46 : decode prog_15_method_8_code 46 = .ok (.goto 4, 3) := by decide +kernel
theorem d_p15m8_49 : decode prog_15_method_8_code 49 = .ok (.iconst 0, 1) := by decide +kernel
theorem d_p15m8_50 : decode prog_15_method_8_code 50 = .ok (.ireturn, 1) := by decide +kernel
abbrev y_Mod_isLetter : MethodName := ⟨"PolicyDeskModel", "isLetter", "(I)Z"⟩
theorem ok_Mod_isLetter : pd_ok y_Mod_isLetter prog_15_method_8_code 1 (some .boolean) 1 := ⟨mT_1319, mT_21, by decide, by decide +kernel⟩
abbrev rm_Mod_isLetter : Room := { frames := 1, cells := 0, slots := 0, locals := 22 }
set_option maxHeartbeats 4000000 in
set_option maxRecDepth 100000 in
theorem c_Mod_isLetter (l : Launch) (G : pd_G) (h : pd_H) {x : Nat} (hx9 : x < 1000) : pd_M l y_Mod_isLetter prog_15_method_8_code 1 (some .boolean) rm_Mod_isLetter G h [.int (nI x)] pd_vb (fun r h1 => r = gr_pl x ∧ h = h1) := by
  refine pd_M.of (by decide) (Nat.le_of_ble_eq_true rfl) ?_
  intro p e s m below meth c X hmn w ls hl
  have hx := X.1
  have hb := X.2.1
  have hl : lv_has ls 1 [(0, .int (nI x))] := hl
  refine lv_iload_n hx hb d_p15m8_0 rfl (lv_at hl 0 rfl) ?_
  refine lv_bipush (v := nI 97) hx hb d_p15m8_1 (by decide) ?_
  refine lv_bipush (v := nI 122) hx hb d_p15m8_3 (by decide) ?_
  refine pd_cS (As := [.int (nI x), .int (nI 97), .int (nI 122)]) (rest := []) X w (c_Mod_in l G h (by omega) (by omega) (by omega)) ok_Mod_in mT_1278 mT_1277 ⟨by decide, by decide⟩ rfl hl.1 rfl (Nat.le_of_ble_eq_true rfl) d_p15m8_5 ⟨by decide, by decide⟩ (fun r1 h2 H locs hp3 w => ?_)
  refine W.widen (k := 0) (n := 0) (by decide) (by decide) ?_
  obtain ⟨e4, rfl⟩ := hp3
  refine pd_bne (tgt := 45) hx hb d_p15m8_8 (by decide) (fun q5 => ?_) (fun q5 => ?_)
  · -- taken: 45
    refine lv_iconst (v := nI 1) hx hb d_p15m8_45 (by decide) ?_
    refine lv_goto (tgt := 50) hx hb d_p15m8_46 (by decide) ?_
    refine W.eq (g2 := F0 m 50 ls [.int (pd_b true)]) rfl ?_
    exact pd_zret (v := true) X w ⟨(decide_eq_true (by have z1 := of_decide_eq_true (e4.symm.trans q5); omega)).symm, rfl⟩ (by decide) (by decide) d_p15m8_50
  · -- not taken: 11
    refine lv_iload_n hx hb d_p15m8_11 rfl (lv_at hl 0 rfl) ?_
    refine lv_bipush (v := nI 65) hx hb d_p15m8_12 (by decide) ?_
    refine lv_bipush (v := nI 90) hx hb d_p15m8_14 (by decide) ?_
    refine pd_cS (As := [.int (nI x), .int (nI 65), .int (nI 90)]) (rest := []) X w (c_Mod_in l G h (by omega) (by omega) (by omega)) ok_Mod_in mT_1278 mT_1277 ⟨by decide, by decide⟩ rfl hl.1 rfl (Nat.le_of_ble_eq_true rfl) d_p15m8_16 ⟨by decide, by decide⟩ (fun r6 h7 H locs hp8 w => ?_)
    refine W.widen (k := 0) (n := 0) (by decide) (by decide) ?_
    obtain ⟨e9, rfl⟩ := hp8
    refine pd_bne (tgt := 45) hx hb d_p15m8_19 (by decide) (fun q10 => ?_) (fun q10 => ?_)
    · -- taken: 45
      refine lv_iconst (v := nI 1) hx hb d_p15m8_45 (by decide) ?_
      refine lv_goto (tgt := 50) hx hb d_p15m8_46 (by decide) ?_
      refine W.eq (g2 := F0 m 50 ls [.int (pd_b true)]) rfl ?_
      exact pd_zret (v := true) X w ⟨(decide_eq_true (by have z1 := of_decide_eq_true (e9.symm.trans q10); omega)).symm, rfl⟩ (by decide) (by decide) d_p15m8_50
    · -- not taken: 22
      refine lv_iload_n hx hb d_p15m8_22 rfl (lv_at hl 0 rfl) ?_
      refine lv_bipush (v := nI 48) hx hb d_p15m8_23 (by decide) ?_
      refine lv_bipush (v := nI 57) hx hb d_p15m8_25 (by decide) ?_
      refine pd_cS (As := [.int (nI x), .int (nI 48), .int (nI 57)]) (rest := []) X w (c_Mod_in l G h (by omega) (by omega) (by omega)) ok_Mod_in mT_1278 mT_1277 ⟨by decide, by decide⟩ rfl hl.1 rfl (Nat.le_of_ble_eq_true rfl) d_p15m8_27 ⟨by decide, by decide⟩ (fun r11 h12 H locs hp13 w => ?_)
      refine W.widen (k := 0) (n := 0) (by decide) (by decide) ?_
      obtain ⟨e14, rfl⟩ := hp13
      refine pd_bne (tgt := 45) hx hb d_p15m8_30 (by decide) (fun q15 => ?_) (fun q15 => ?_)
      · -- taken: 45
        refine lv_iconst (v := nI 1) hx hb d_p15m8_45 (by decide) ?_
        refine lv_goto (tgt := 50) hx hb d_p15m8_46 (by decide) ?_
        refine W.eq (g2 := F0 m 50 ls [.int (pd_b true)]) rfl ?_
        exact pd_zret (v := true) X w ⟨(decide_eq_true (by have z1 := of_decide_eq_true (e14.symm.trans q15); omega)).symm, rfl⟩ (by decide) (by decide) d_p15m8_50
      · -- not taken: 33
        refine lv_iload_n hx hb d_p15m8_33 rfl (lv_at hl 0 rfl) ?_
        refine lv_bipush (v := nI 95) hx hb d_p15m8_34 (by decide) ?_
        refine pd_jeq (tgt := 45) hx hb d_p15m8_36 (by decide) (by omega) (by omega) (fun q16 => ?_) (fun q16 => ?_)
        · -- taken: 45
          refine lv_iconst (v := nI 1) hx hb d_p15m8_45 (by decide) ?_
          refine lv_goto (tgt := 50) hx hb d_p15m8_46 (by decide) ?_
          refine W.eq (g2 := F0 m 50 ls [.int (pd_b true)]) rfl ?_
          exact pd_zret (v := true) X w ⟨(decide_eq_true (by omega)).symm, rfl⟩ (by decide) (by decide) d_p15m8_50
        · -- not taken: 39
          refine lv_iload_n hx hb d_p15m8_39 rfl (lv_at hl 0 rfl) ?_
          refine lv_bipush (v := nI 36) hx hb d_p15m8_40 (by decide) ?_
          refine pd_jne (tgt := 49) hx hb d_p15m8_42 (by decide) (by omega) (by omega) (fun q17 => ?_) (fun q17 => ?_)
          · -- taken: 49
            refine lv_iconst (v := nI 0) hx hb d_p15m8_49 (by decide) ?_
            refine W.eq (g2 := F0 m 50 ls [.int (pd_b false)]) rfl ?_
            exact pd_zret (v := false) X w ⟨(decide_eq_false (fun z => by have z1 := of_decide_eq_false (e4.symm.trans q5); have z2 := of_decide_eq_false (e9.symm.trans q10); have z3 := of_decide_eq_false (e14.symm.trans q15); omega)).symm, rfl⟩ (by decide) (by decide) d_p15m8_50
          · -- not taken: 45
            refine lv_iconst (v := nI 1) hx hb d_p15m8_45 (by decide) ?_
            refine lv_goto (tgt := 50) hx hb d_p15m8_46 (by decide) ?_
            refine W.eq (g2 := F0 m 50 ls [.int (pd_b true)]) rfl ?_
            exact pd_zret (v := true) X w ⟨(decide_eq_true (by omega)).symm, rfl⟩ (by decide) (by decide) d_p15m8_50
theorem d_p15m9_0 : decode prog_15_method_9_code 0 = .ok (.iload_n 1, 1) := by decide +kernel
theorem d_p15m9_1 : decode prog_15_method_9_code 1 = .ok (.istore_n 3, 1) := by decide +kernel
theorem d_p15m9_2 : decode prog_15_method_9_code 2 = .ok (.iload_n 3, 1) := by decide +kernel
theorem d_p15m9_3 : decode prog_15_method_9_code 3 = .ok (.iload_n 2, 1) := by decide +kernel
theorem d_p15m9_4 : decode prog_15_method_9_code 4 = .ok (.if_icmp .ge 21, 3) := by decide +kernel
theorem d_p15m9_7 : decode prog_15_method_9_code 7 = .ok (.aload_n 0, 1) := by decide +kernel
theorem d_p15m9_8 : decode prog_15_method_9_code 8 = .ok (.getfield 7, 3) := by decide +kernel
theorem d_p15m9_11 : decode prog_15_method_9_code 11 = .ok (.iload_n 3, 1) := by decide +kernel
theorem d_p15m9_12 : decode prog_15_method_9_code 12 = .ok (.iaload, 1) := by decide +kernel
theorem d_p15m9_13 : decode prog_15_method_9_code 13 = .ok (.invokestatic 119, 3) := by decide +kernel
theorem d_p15m9_16 : decode prog_15_method_9_code 16 = .ok (.ifCond .eq 9, 3) := by decide +kernel
theorem d_p15m9_19 : decode prog_15_method_9_code 19 = .ok (.iinc 3 1, 3) := by decide +kernel
theorem d_p15m9_22 : decode prog_15_method_9_code 22 = .ok (.goto (-20), 3) := by decide +kernel
theorem d_p15m9_25 : decode prog_15_method_9_code 25 = .ok (.iload_n 3, 1) := by decide +kernel
theorem d_p15m9_26 : decode prog_15_method_9_code 26 = .ok (.ireturn, 1) := by decide +kernel
abbrev y_PolicyDeskModel_behindPart : MethodName := ⟨"PolicyDeskModel", "behindPart", "(II)I"⟩
theorem ok_PolicyDeskModel_behindPart : pd_ok y_PolicyDeskModel_behindPart prog_15_method_9_code 4 (some .int) 2 := ⟨mT_1316, mT_21, by decide, by decide +kernel⟩
abbrev rm_PolicyDeskModel_behindPart : Room := { frames := 2, cells := 0, slots := 0, locals := 42 }
set_option maxHeartbeats 4000000 in
set_option maxRecDepth 100000 in
theorem lp_PolicyDeskModel_behindPart_2 (l : Launch) (G : pd_G) (h : pd_H) {y : Nat} {ad : Nat → Nat} {fv : Nat → Nat → Int32} {iv : Nat → Int32} {tl : Int64} {cs : List Nat} {x to : Nat} (hMO : pd_MO G h y ad fv iv tl) (hL : gm_L fv iv cs) (hto : to ≤ cs.length) (hxt : x ≤ to) {p : Program} {e : Env} {s : State} {m : MethodId} {below : List Frame} {meth : Method} {c : Code} (X : pd_B p s m [.ref y, .int (nI x), .int (nI to)].toArray meth c G y_PolicyDeskModel_behindPart.cls prog_15_method_9_code 4 (some .int)) (hmn : meth.name = y_PolicyDeskModel_behindPart.name) :
    ∀ (kk9 : Nat) (i : Nat), (i ≤ to) → (gm_bp cs to (to - i) i = gm_part cs x to) → to - i < kk9 → ∀ (H : Heap) (locs : List Loc), pd_w G s H locs h → ∀ ls : Array Slot, lv_has ls 4 [(3, .int (nI i)), (0, .ref y), (1, .int (nI x)), (2, .int (nI to))] → W p l e rm_PolicyDeskModel_behindPart s m [.ref y, .int (nI x), .int (nI to)].toArray below meth c H locs 0 0 (MQ below (pd_Q G pd_vn (fun r h1 => r = gm_part cs x to ∧ h = h1)) [.ref y, .int (nI x), .int (nI to)].toArray s rm_PolicyDeskModel_behindPart.cells rm_PolicyDeskModel_behindPart.slots (fun q => G.2.1 ≤ q)) (F0 m 2 ls []) := by
  have hx := X.1
  have hb := X.2.1
  have hz_y := hMO.2.1
  have hy0 : h y = some (20, .inr (10, [.ref (ad 0), .ref (ad 1), .ref (ad 2), .int (iv 3), .int (iv 4), .int (iv 5), .ref (ad 6), .ref (ad 7), .ref (ad 8), .ref (ad 9), .ref (ad 10), .ref (ad 11), .int (iv 12), .ref (ad 13), .ref (ad 14), .ref (ad 15), .ref (ad 16), .ref (ad 17), .ref (ad 18), .ref (ad 19), .int (iv 20), .ref (ad 21), .ref (ad 22), .ref (ad 23), .ref (ad 24), .ref (ad 25), .ref (ad 26), .ref (ad 27), .ref (ad 28), .int (iv 29), .ref (ad 30), .ref (ad 31), .int (iv 32), .int (iv 33), .int (iv 34), .int (iv 35), .long tl, .int (iv 37), .int (iv 38), .int (iv 39), .int (iv 40), .ref (ad 41), .ref (ad 42), .int (iv 43)])) := hMO.1
  have ha0 : h (ad 0) = some (30, .inl (.int, 60, .inl (fv 0))) := (hMO.2.2 0 (by decide)).1
  obtain ⟨hiv3, hln, hl60, hlc⟩ := id hL
  intro kk9
  induction kk9 with
  | zero => intros; omega
  | succ kk9 ih =>
    intro i hi hv hmu H locs w ls hl
    refine lv_iload_n hx hb d_p15m9_2 rfl (lv_at hl 0 rfl) ?_
    refine lv_iload_n hx hb d_p15m9_3 rfl (lv_at hl 3 rfl) ?_
    refine pd_jge (tgt := 25) hx hb d_p15m9_4 (by decide) (by omega) (by omega) (fun q1 => ?_) (fun q1 => ?_)
    · -- taken: 25
      refine lv_iload_n hx hb d_p15m9_25 rfl (lv_at hl 0 rfl) ?_
      exact pd_nret (v := i) X w ⟨by rw [← hv, gm_bp_n (fun z => by omega)], rfl⟩ (by decide) (by decide) d_p15m9_26
    · -- not taken: 7
      refine lv_aload_n hx hb d_p15m9_7 rfl (lv_at hl 1 rfl) ?_
      refine pd_get X w hy0 rfl 0 (by decide) mT_1139 rfl rfl d_p15m9_8 ?_
      refine lv_iload_n hx hb d_p15m9_11 rfl (lv_at hl 0 rfl) ?_
      refine pd_iald X w ha0 (by omega) (by omega) d_p15m9_12 ?_
      refine pd_top (v' := .int (nI (cs.getD i 0))) (congrArg Value.int (hln _ (by omega))) ?_
      have := tx_lt hlc i
      refine pd_cS (As := [.int (nI (cs.getD i 0))]) (rest := []) X w (c_Mod_isLetter l G h (by omega)) ok_Mod_isLetter mT_1318 mT_1317 ⟨by decide, by decide⟩ rfl hl.1 rfl (Nat.le_of_ble_eq_true rfl) d_p15m9_13 ⟨by decide, by decide⟩ (fun r2 h3 H locs hp4 w => ?_)
      refine W.widen (k := 0) (n := 0) (by decide) (by decide) ?_
      obtain ⟨e5, rfl⟩ := hp4
      refine pd_beq (tgt := 25) hx hb d_p15m9_16 (by decide) (fun q6 => ?_) (fun q6 => ?_)
      · -- taken: 25
        refine lv_iload_n hx hb d_p15m9_25 rfl (lv_at hl 0 rfl) ?_
        exact pd_nret (v := i) X w ⟨by rw [← hv, gm_bp_n (fun z => by have z2 := z.2; rw [← e5, q6] at z2; cases z2)], rfl⟩ (by decide) (by decide) d_p15m9_26
      · -- not taken: 19
        refine pd_iinc (k := 0) (d := 1) (lv' := [(3, .int (nI (i + 1))), (0, .ref y), (1, .int (nI x)), (2, .int (nI to))]) hx hb d_p15m9_19 (by decide) hl rfl (by decide) rfl (fun ls hl => ?_)
        refine lv_goto (tgt := 2) hx hb d_p15m9_22 (by decide) ?_
        exact ih (i + 1) (by omega) (by rw [← hv, gm_bp_s (x := i) (by omega) (e5.symm.trans q6)]) (by omega) _ _ w ls (lv_sub hl [0, 1, 2, 3] rfl)
set_option maxHeartbeats 4000000 in
set_option maxRecDepth 100000 in
theorem c_PolicyDeskModel_behindPart (l : Launch) (G : pd_G) (h : pd_H) {y : Nat} {ad : Nat → Nat} {fv : Nat → Nat → Int32} {iv : Nat → Int32} {tl : Int64} {cs : List Nat} {x to : Nat} (hMO : pd_MO G h y ad fv iv tl) (hL : gm_L fv iv cs) (hto : to ≤ cs.length) (hxt : x ≤ to) : pd_M l y_PolicyDeskModel_behindPart prog_15_method_9_code 4 (some .int) rm_PolicyDeskModel_behindPart G h [.ref y, .int (nI x), .int (nI to)] pd_vn (fun r h1 => r = gm_part cs x to ∧ h = h1) := by
  refine pd_M.of (by decide) (Nat.le_of_ble_eq_true rfl) ?_
  intro p e s m below meth c X hmn w ls hl
  have hx := X.1
  have hb := X.2.1
  have hl : lv_has ls 4 [(0, .ref y), (1, .int (nI x)), (2, .int (nI to))] := hl
  have hz_y := hMO.2.1
  have hy0 : h y = some (20, .inr (10, [.ref (ad 0), .ref (ad 1), .ref (ad 2), .int (iv 3), .int (iv 4), .int (iv 5), .ref (ad 6), .ref (ad 7), .ref (ad 8), .ref (ad 9), .ref (ad 10), .ref (ad 11), .int (iv 12), .ref (ad 13), .ref (ad 14), .ref (ad 15), .ref (ad 16), .ref (ad 17), .ref (ad 18), .ref (ad 19), .int (iv 20), .ref (ad 21), .ref (ad 22), .ref (ad 23), .ref (ad 24), .ref (ad 25), .ref (ad 26), .ref (ad 27), .ref (ad 28), .int (iv 29), .ref (ad 30), .ref (ad 31), .int (iv 32), .int (iv 33), .int (iv 34), .int (iv 35), .long tl, .int (iv 37), .int (iv 38), .int (iv 39), .int (iv 40), .ref (ad 41), .ref (ad 42), .int (iv 43)])) := hMO.1
  have ha0 : h (ad 0) = some (30, .inl (.int, 60, .inl (fv 0))) := (hMO.2.2 0 (by decide)).1
  obtain ⟨hiv3, hln, hl60, hlc⟩ := id hL
  refine lv_iload_n hx hb d_p15m9_0 rfl (lv_at hl 1 rfl) ?_
  refine lv_istore_n (lv' := [(3, .int (nI x)), (0, .ref y), (1, .int (nI x)), (2, .int (nI to))]) hx hb d_p15m9_1 rfl hl (by decide) rfl (fun ls hl => ?_)
  exact lp_PolicyDeskModel_behindPart_2 l G h hMO hL hto hxt X hmn (to + 1) x (by omega) (rfl) (by omega) _ _ w ls (lv_sub hl [0, 1, 2, 3] rfl)
theorem d_p15m10_0 : decode prog_15_method_10_code 0 = .ok (.aload_n 0, 1) := by decide +kernel
theorem d_p15m10_1 : decode prog_15_method_10_code 1 = .ok (.iload_n 1, 1) := by decide +kernel
theorem d_p15m10_2 : decode prog_15_method_10_code 2 = .ok (.iload_n 2, 1) := by decide +kernel
theorem d_p15m10_3 : decode prog_15_method_10_code 3 = .ok (.invokevirtual 123, 3) := by decide +kernel
theorem d_p15m10_6 : decode prog_15_method_10_code 6 = .ok (.istore_n 3, 1) := by decide +kernel
theorem d_p15m10_7 : decode prog_15_method_10_code 7 = .ok (.iload_n 3, 1) := by decide +kernel
theorem d_p15m10_8 : decode prog_15_method_10_code 8 = .ok (.iload_n 1, 1) := by decide +kernel
theorem d_p15m10_9 : decode prog_15_method_10_code 9 = .ok (.if_icmp .le 47, 3) := by decide +kernel
theorem d_p15m10_12 : decode prog_15_method_10_code 12 = .ok (.iload_n 3, 1) := by decide +kernel
theorem d_p15m10_13 : decode prog_15_method_10_code 13 = .ok (.iconst 1, 1) := by decide +kernel
theorem d_p15m10_14 : decode prog_15_method_10_code 14 = .ok (.iadd, 1) := by decide +kernel
theorem d_p15m10_15 : decode prog_15_method_10_code 15 = .ok (.iload_n 2, 1) := by decide +kernel
theorem d_p15m10_16 : decode prog_15_method_10_code 16 = .ok (.if_icmp .ge 40, 3) := by decide +kernel
theorem d_p15m10_19 : decode prog_15_method_10_code 19 = .ok (.aload_n 0, 1) := by decide +kernel
theorem d_p15m10_20 : decode prog_15_method_10_code 20 = .ok (.getfield 7, 3) := by decide +kernel
theorem d_p15m10_23 : decode prog_15_method_10_code 23 = .ok (.iload_n 3, 1) := by decide +kernel
theorem d_p15m10_24 : decode prog_15_method_10_code 24 = .ok (.iaload, 1) := by decide +kernel
theorem d_p15m10_25 : decode prog_15_method_10_code 25 = .ok (.bipush 47, 2) := by decide +kernel
theorem d_p15m10_27 : decode prog_15_method_10_code 27 = .ok (.if_icmp .ne 29, 3) := by decide +kernel
theorem d_p15m10_30 : decode prog_15_method_10_code 30 = .ok (.aload_n 0, 1) := by decide +kernel
theorem d_p15m10_31 : decode prog_15_method_10_code 31 = .ok (.getfield 7, 3) := by decide +kernel
theorem d_p15m10_34 : decode prog_15_method_10_code 34 = .ok (.iload_n 3, 1) := by decide +kernel
theorem d_p15m10_35 : decode prog_15_method_10_code 35 = .ok (.iconst 1, 1) := by decide +kernel
theorem d_p15m10_36 : decode prog_15_method_10_code 36 = .ok (.iadd, 1) := by decide +kernel
theorem d_p15m10_37 : decode prog_15_method_10_code 37 = .ok (.iaload, 1) := by decide +kernel
theorem d_p15m10_38 : decode prog_15_method_10_code 38 = .ok (.invokestatic 119, 3) := by decide +kernel
theorem d_p15m10_41 : decode prog_15_method_10_code 41 = .ok (.ifCond .eq 15, 3) := by decide +kernel
theorem d_p15m10_44 : decode prog_15_method_10_code 44 = .ok (.aload_n 0, 1) := by decide +kernel
theorem d_p15m10_45 : decode prog_15_method_10_code 45 = .ok (.iload_n 3, 1) := by decide +kernel
theorem d_p15m10_46 : decode prog_15_method_10_code 46 = .ok (.iconst 1, 1) := by decide +kernel
theorem d_p15m10_47 : decode prog_15_method_10_code 47 = .ok (.iadd, 1) := by decide +kernel
theorem d_p15m10_48 : decode prog_15_method_10_code 48 = .ok (.iload_n 2, 1) := by decide +kernel
theorem d_p15m10_49 : decode prog_15_method_10_code 49 = .ok (.invokevirtual 123, 3) := by decide +kernel
theorem d_p15m10_52 : decode prog_15_method_10_code 52 = .ok (.istore_n 3, 1) := by decide +kernel
theorem d_p15m10_53 : decode prog_15_method_10_code 53 = .ok (.goto (-46), 3) := by decide +kernel
theorem d_p15m10_56 : decode prog_15_method_10_code 56 = .ok (.iload_n 3, 1) := by decide +kernel
theorem d_p15m10_57 : decode prog_15_method_10_code 57 = .ok (.iload_n 1, 1) := by decide +kernel
theorem d_p15m10_58 : decode prog_15_method_10_code 58 = .ok (.isub, 1) := by decide +kernel
theorem d_p15m10_59 : decode prog_15_method_10_code 59 = .ok (.bipush 24, 2) := by decide +kernel
theorem d_p15m10_61 : decode prog_15_method_10_code 61 = .ok (.if_icmp .le 7, 3) := by decide +kernel
theorem d_p15m10_64 : decode prog_15_method_10_code 64 = .ok (.iload_n 1, 1) := by decide +kernel
theorem d_p15m10_65 : decode prog_15_method_10_code 65 = .ok (.goto 4, 3) := by decide +kernel
theorem d_p15m10_68 : decode prog_15_method_10_code 68 = .ok (.iload_n 3, 1) := by decide +kernel
theorem d_p15m10_69 : decode prog_15_method_10_code 69 = .ok (.ireturn, 1) := by decide +kernel
abbrev y_PolicyDeskModel_behindName : MethodName := ⟨"PolicyDeskModel", "behindName", "(II)I"⟩
theorem ok_PolicyDeskModel_behindName : pd_ok y_PolicyDeskModel_behindName prog_15_method_10_code 4 (some .int) 2 := ⟨mT_1312, mT_21, by decide, by decide +kernel⟩
abbrev rm_PolicyDeskModel_behindName : Room := { frames := 3, cells := 0, slots := 0, locals := 65 }
set_option maxHeartbeats 4000000 in
set_option maxRecDepth 100000 in
theorem lp_PolicyDeskModel_behindName_7 (l : Launch) (G : pd_G) (h : pd_H) {y : Nat} {ad : Nat → Nat} {fv : Nat → Nat → Int32} {iv : Nat → Int32} {tl : Int64} {cs : List Nat} {x to : Nat} (hMO : pd_MO G h y ad fv iv tl) (hL : gm_L fv iv cs) (hto : to ≤ cs.length) (hxt : x ≤ to) {p : Program} {e : Env} {s : State} {m : MethodId} {below : List Frame} {meth : Method} {c : Code} (X : pd_B p s m [.ref y, .int (nI x), .int (nI to)].toArray meth c G y_PolicyDeskModel_behindName.cls prog_15_method_10_code 4 (some .int)) (hmn : meth.name = y_PolicyDeskModel_behindName.name) :
    ∀ (kk9 : Nat) (k9 : Nat) (fe : Nat), (x ≤ k9 ∧ k9 ≤ to ∧ to ≤ fe + k9) → (gm_bn cs to x fe k9 = gm_bn cs to x to (gm_part cs x to)) → to - k9 < kk9 → ∀ (H : Heap) (locs : List Loc), pd_w G s H locs h → ∀ ls : Array Slot, lv_has ls 4 [(3, .int (nI k9)), (0, .ref y), (1, .int (nI x)), (2, .int (nI to))] → W p l e rm_PolicyDeskModel_behindName s m [.ref y, .int (nI x), .int (nI to)].toArray below meth c H locs 0 0 (MQ below (pd_Q G pd_vn (fun r h1 => r = gm_name cs x to ∧ h = h1)) [.ref y, .int (nI x), .int (nI to)].toArray s rm_PolicyDeskModel_behindName.cells rm_PolicyDeskModel_behindName.slots (fun q => G.2.1 ≤ q)) (F0 m 7 ls []) := by
  have hx := X.1
  have hb := X.2.1
  have hz_y := hMO.2.1
  have hy0 : h y = some (20, .inr (10, [.ref (ad 0), .ref (ad 1), .ref (ad 2), .int (iv 3), .int (iv 4), .int (iv 5), .ref (ad 6), .ref (ad 7), .ref (ad 8), .ref (ad 9), .ref (ad 10), .ref (ad 11), .int (iv 12), .ref (ad 13), .ref (ad 14), .ref (ad 15), .ref (ad 16), .ref (ad 17), .ref (ad 18), .ref (ad 19), .int (iv 20), .ref (ad 21), .ref (ad 22), .ref (ad 23), .ref (ad 24), .ref (ad 25), .ref (ad 26), .ref (ad 27), .ref (ad 28), .int (iv 29), .ref (ad 30), .ref (ad 31), .int (iv 32), .int (iv 33), .int (iv 34), .int (iv 35), .long tl, .int (iv 37), .int (iv 38), .int (iv 39), .int (iv 40), .ref (ad 41), .ref (ad 42), .int (iv 43)])) := hMO.1
  have ha0 : h (ad 0) = some (30, .inl (.int, 60, .inl (fv 0))) := (hMO.2.2 0 (by decide)).1
  obtain ⟨hiv3, hln, hl60, hlc⟩ := id hL
  intro kk9
  induction kk9 with
  | zero => intros; omega
  | succ kk9 ih =>
    intro k9 fe hk9 hv hmu H locs w ls hl
    refine lv_iload_n hx hb d_p15m10_7 rfl (lv_at hl 0 rfl) ?_
    refine lv_iload_n hx hb d_p15m10_8 rfl (lv_at hl 2 rfl) ?_
    refine pd_jle (tgt := 56) hx hb d_p15m10_9 (by decide) (by omega) (by omega) (fun q1 => ?_) (fun q1 => ?_)
    · -- taken: 56
      have hbn : gm_bn cs to x to (gm_part cs x to) = k9 := by rw [← hv, gm_bn_n (fun z => by omega)]
      refine lv_iload_n hx hb d_p15m10_56 rfl (lv_at hl 0 rfl) ?_
      refine lv_iload_n hx hb d_p15m10_57 rfl (lv_at hl 2 rfl) ?_
      refine pd_isub hx hb d_p15m10_58 (by omega) ?_
      refine lv_bipush (v := nI 24) hx hb d_p15m10_59 (by decide) ?_
      refine pd_jle (tgt := 68) hx hb d_p15m10_61 (by decide) (by omega) (by omega) (fun q2 => ?_) (fun q2 => ?_)
      · -- taken: 68
        refine lv_iload_n hx hb d_p15m10_68 rfl (lv_at hl 0 rfl) ?_
        exact pd_nret (v := k9) X w ⟨by unfold gm_name; rw [hbn, if_neg (by omega)], rfl⟩ (by decide) (by decide) d_p15m10_69
      · -- not taken: 64
        refine lv_iload_n hx hb d_p15m10_64 rfl (lv_at hl 2 rfl) ?_
        refine lv_goto (tgt := 69) hx hb d_p15m10_65 (by decide) ?_
        exact pd_nret (v := x) X w ⟨by unfold gm_name; rw [hbn, if_pos (by omega)], rfl⟩ (by decide) (by decide) d_p15m10_69
    · -- not taken: 12
      refine lv_iload_n hx hb d_p15m10_12 rfl (lv_at hl 0 rfl) ?_
      refine lv_iconst (v := nI 1) hx hb d_p15m10_13 (by decide) ?_
      refine pd_iadd hx hb d_p15m10_14 ?_
      refine lv_iload_n hx hb d_p15m10_15 rfl (lv_at hl 3 rfl) ?_
      refine pd_jge (tgt := 56) hx hb d_p15m10_16 (by decide) (by omega) (by omega) (fun q3 => ?_) (fun q3 => ?_)
      · -- taken: 56
        have hbn : gm_bn cs to x to (gm_part cs x to) = k9 := by rw [← hv, gm_bn_n (fun z => by omega)]
        refine lv_iload_n hx hb d_p15m10_56 rfl (lv_at hl 0 rfl) ?_
        refine lv_iload_n hx hb d_p15m10_57 rfl (lv_at hl 2 rfl) ?_
        refine pd_isub hx hb d_p15m10_58 (by omega) ?_
        refine lv_bipush (v := nI 24) hx hb d_p15m10_59 (by decide) ?_
        refine pd_jle (tgt := 68) hx hb d_p15m10_61 (by decide) (by omega) (by omega) (fun q4 => ?_) (fun q4 => ?_)
        · -- taken: 68
          refine lv_iload_n hx hb d_p15m10_68 rfl (lv_at hl 0 rfl) ?_
          exact pd_nret (v := k9) X w ⟨by unfold gm_name; rw [hbn, if_neg (by omega)], rfl⟩ (by decide) (by decide) d_p15m10_69
        · -- not taken: 64
          refine lv_iload_n hx hb d_p15m10_64 rfl (lv_at hl 2 rfl) ?_
          refine lv_goto (tgt := 69) hx hb d_p15m10_65 (by decide) ?_
          exact pd_nret (v := x) X w ⟨by unfold gm_name; rw [hbn, if_pos (by omega)], rfl⟩ (by decide) (by decide) d_p15m10_69
      · -- not taken: 19
        refine lv_aload_n hx hb d_p15m10_19 rfl (lv_at hl 1 rfl) ?_
        refine pd_get X w hy0 rfl 0 (by decide) mT_1139 rfl rfl d_p15m10_20 ?_
        refine lv_iload_n hx hb d_p15m10_23 rfl (lv_at hl 0 rfl) ?_
        refine pd_iald X w ha0 (by omega) (by omega) d_p15m10_24 ?_
        refine pd_top (v' := .int (nI (cs.getD k9 0))) (congrArg Value.int (hln _ (by omega))) ?_
        have := tx_lt hlc k9
        refine lv_bipush (v := nI 47) hx hb d_p15m10_25 (by decide) ?_
        refine pd_jne (tgt := 56) hx hb d_p15m10_27 (by decide) (by omega) (by omega) (fun q5 => ?_) (fun q5 => ?_)
        · -- taken: 56
          have hbn : gm_bn cs to x to (gm_part cs x to) = k9 := by rw [← hv, gm_bn_n (fun z => by omega)]
          refine lv_iload_n hx hb d_p15m10_56 rfl (lv_at hl 0 rfl) ?_
          refine lv_iload_n hx hb d_p15m10_57 rfl (lv_at hl 2 rfl) ?_
          refine pd_isub hx hb d_p15m10_58 (by omega) ?_
          refine lv_bipush (v := nI 24) hx hb d_p15m10_59 (by decide) ?_
          refine pd_jle (tgt := 68) hx hb d_p15m10_61 (by decide) (by omega) (by omega) (fun q6 => ?_) (fun q6 => ?_)
          · -- taken: 68
            refine lv_iload_n hx hb d_p15m10_68 rfl (lv_at hl 0 rfl) ?_
            exact pd_nret (v := k9) X w ⟨by unfold gm_name; rw [hbn, if_neg (by omega)], rfl⟩ (by decide) (by decide) d_p15m10_69
          · -- not taken: 64
            refine lv_iload_n hx hb d_p15m10_64 rfl (lv_at hl 2 rfl) ?_
            refine lv_goto (tgt := 69) hx hb d_p15m10_65 (by decide) ?_
            exact pd_nret (v := x) X w ⟨by unfold gm_name; rw [hbn, if_pos (by omega)], rfl⟩ (by decide) (by decide) d_p15m10_69
        · -- not taken: 30
          refine lv_aload_n hx hb d_p15m10_30 rfl (lv_at hl 1 rfl) ?_
          refine pd_get X w hy0 rfl 0 (by decide) mT_1139 rfl rfl d_p15m10_31 ?_
          refine lv_iload_n hx hb d_p15m10_34 rfl (lv_at hl 0 rfl) ?_
          refine lv_iconst (v := nI 1) hx hb d_p15m10_35 (by decide) ?_
          refine pd_iadd hx hb d_p15m10_36 ?_
          refine pd_iald X w ha0 (by omega) (by omega) d_p15m10_37 ?_
          refine pd_top (v' := .int (nI (cs.getD (k9 + 1) 0))) (congrArg Value.int (hln _ (by omega))) ?_
          have := tx_lt hlc (k9 + 1)
          refine pd_cS (As := [.int (nI (cs.getD (k9 + 1) 0))]) (rest := []) X w (c_Mod_isLetter l G h (by omega)) ok_Mod_isLetter mT_1318 mT_1317 ⟨by decide, by decide⟩ rfl hl.1 rfl (Nat.le_of_ble_eq_true rfl) d_p15m10_38 ⟨by decide, by decide⟩ (fun r7 h8 H locs hp9 w => ?_)
          refine W.widen (k := 0) (n := 0) (by decide) (by decide) ?_
          obtain ⟨e10, rfl⟩ := hp9
          refine pd_beq (tgt := 56) hx hb d_p15m10_41 (by decide) (fun q11 => ?_) (fun q11 => ?_)
          · -- taken: 56
            have hbn : gm_bn cs to x to (gm_part cs x to) = k9 := by rw [← hv, gm_bn_n (fun z => by have z2 := z.2.2.2; rw [← e10, q11] at z2; cases z2)]
            refine lv_iload_n hx hb d_p15m10_56 rfl (lv_at hl 0 rfl) ?_
            refine lv_iload_n hx hb d_p15m10_57 rfl (lv_at hl 2 rfl) ?_
            refine pd_isub hx hb d_p15m10_58 (by omega) ?_
            refine lv_bipush (v := nI 24) hx hb d_p15m10_59 (by decide) ?_
            refine pd_jle (tgt := 68) hx hb d_p15m10_61 (by decide) (by omega) (by omega) (fun q12 => ?_) (fun q12 => ?_)
            · -- taken: 68
              refine lv_iload_n hx hb d_p15m10_68 rfl (lv_at hl 0 rfl) ?_
              exact pd_nret (v := k9) X w ⟨by unfold gm_name; rw [hbn, if_neg (by omega)], rfl⟩ (by decide) (by decide) d_p15m10_69
            · -- not taken: 64
              refine lv_iload_n hx hb d_p15m10_64 rfl (lv_at hl 2 rfl) ?_
              refine lv_goto (tgt := 69) hx hb d_p15m10_65 (by decide) ?_
              exact pd_nret (v := x) X w ⟨by unfold gm_name; rw [hbn, if_pos (by omega)], rfl⟩ (by decide) (by decide) d_p15m10_69
          · -- not taken: 44
            refine lv_aload_n hx hb d_p15m10_44 rfl (lv_at hl 1 rfl) ?_
            refine lv_iload_n hx hb d_p15m10_45 rfl (lv_at hl 0 rfl) ?_
            refine lv_iconst (v := nI 1) hx hb d_p15m10_46 (by decide) ?_
            refine pd_iadd hx hb d_p15m10_47 ?_
            refine lv_iload_n hx hb d_p15m10_48 rfl (lv_at hl 3 rfl) ?_
            refine pd_cV (a := y) (As := [.int (nI (k9 + 1)), .int (nI to)]) (rest := []) X w hy0 rfl (c_PolicyDeskModel_behindPart l G h (ad := ad) (fv := fv) (iv := iv) (tl := tl) hMO (by assumption) (by omega) (by omega)) ok_PolicyDeskModel_behindPart ⟨mT_1315, sT_19⟩ mT_1313 ⟨by decide, by decide⟩ rfl hl.1 rfl (Nat.le_of_ble_eq_true rfl) d_p15m10_49 ⟨by decide, by decide⟩ (fun r13 h14 H locs hp15 w => ?_)
            refine W.widen (k := 0) (n := 0) (by decide) (by decide) ?_
            obtain ⟨e16, rfl⟩ := hp15
            have hbl2 := gm_part_le (cs := cs) (x := k9 + 1) (to := to) (by omega)
            refine lv_istore_n (lv' := [(3, .int (nI r13)), (0, .ref y), (1, .int (nI x)), (2, .int (nI to))]) hx hb d_p15m10_52 rfl hl (by decide) rfl (fun ls hl => ?_)
            refine lv_goto (tgt := 7) hx hb d_p15m10_53 (by decide) ?_
            exact ih r13 (fe - 1) (by rw [e16]; omega) (by rw [e16, ← hv, gm_bn_s ⟨by omega, by omega, by omega, e10.symm.trans q11⟩ (by omega)]) (by omega) _ _ w ls (lv_sub hl [0, 1, 2, 3] rfl)
set_option maxHeartbeats 4000000 in
set_option maxRecDepth 100000 in
theorem c_PolicyDeskModel_behindName (l : Launch) (G : pd_G) (h : pd_H) {y : Nat} {ad : Nat → Nat} {fv : Nat → Nat → Int32} {iv : Nat → Int32} {tl : Int64} {cs : List Nat} {x to : Nat} (hMO : pd_MO G h y ad fv iv tl) (hL : gm_L fv iv cs) (hto : to ≤ cs.length) (hxt : x ≤ to) : pd_M l y_PolicyDeskModel_behindName prog_15_method_10_code 4 (some .int) rm_PolicyDeskModel_behindName G h [.ref y, .int (nI x), .int (nI to)] pd_vn (fun r h1 => r = gm_name cs x to ∧ h = h1) := by
  refine pd_M.of (by decide) (Nat.le_of_ble_eq_true rfl) ?_
  intro p e s m below meth c X hmn w ls hl
  have hx := X.1
  have hb := X.2.1
  have hl : lv_has ls 4 [(0, .ref y), (1, .int (nI x)), (2, .int (nI to))] := hl
  have hz_y := hMO.2.1
  have hy0 : h y = some (20, .inr (10, [.ref (ad 0), .ref (ad 1), .ref (ad 2), .int (iv 3), .int (iv 4), .int (iv 5), .ref (ad 6), .ref (ad 7), .ref (ad 8), .ref (ad 9), .ref (ad 10), .ref (ad 11), .int (iv 12), .ref (ad 13), .ref (ad 14), .ref (ad 15), .ref (ad 16), .ref (ad 17), .ref (ad 18), .ref (ad 19), .int (iv 20), .ref (ad 21), .ref (ad 22), .ref (ad 23), .ref (ad 24), .ref (ad 25), .ref (ad 26), .ref (ad 27), .ref (ad 28), .int (iv 29), .ref (ad 30), .ref (ad 31), .int (iv 32), .int (iv 33), .int (iv 34), .int (iv 35), .long tl, .int (iv 37), .int (iv 38), .int (iv 39), .int (iv 40), .ref (ad 41), .ref (ad 42), .int (iv 43)])) := hMO.1
  have ha0 : h (ad 0) = some (30, .inl (.int, 60, .inl (fv 0))) := (hMO.2.2 0 (by decide)).1
  obtain ⟨hiv3, hln, hl60, hlc⟩ := id hL
  refine lv_aload_n hx hb d_p15m10_0 rfl (lv_at hl 0 rfl) ?_
  refine lv_iload_n hx hb d_p15m10_1 rfl (lv_at hl 1 rfl) ?_
  refine lv_iload_n hx hb d_p15m10_2 rfl (lv_at hl 2 rfl) ?_
  refine pd_cV (a := y) (As := [.int (nI x), .int (nI to)]) (rest := []) X w hy0 rfl (c_PolicyDeskModel_behindPart l G h (ad := ad) (fv := fv) (iv := iv) (tl := tl) hMO (by assumption) (by omega) (by omega)) ok_PolicyDeskModel_behindPart ⟨mT_1315, sT_19⟩ mT_1313 ⟨by decide, by decide⟩ rfl hl.1 rfl (Nat.le_of_ble_eq_true rfl) d_p15m10_3 ⟨by decide, by decide⟩ (fun r1 h2 H locs hp3 w => ?_)
  refine W.widen (k := 0) (n := 0) (by decide) (by decide) ?_
  obtain ⟨e4, rfl⟩ := hp3
  have hbl := gm_part_le (cs := cs) hxt
  refine lv_istore_n (lv' := [(3, .int (nI r1)), (0, .ref y), (1, .int (nI x)), (2, .int (nI to))]) hx hb d_p15m10_6 rfl hl (by decide) rfl (fun ls hl => ?_)
  exact lp_PolicyDeskModel_behindName_7 l G h hMO hL hto hxt X hmn (to + 1) r1 to (by rw [e4]; omega) (by rw [e4]) (by omega) _ _ w ls (lv_sub hl [0, 1, 2, 3] rfl)
