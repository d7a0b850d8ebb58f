/-! texts -/
theorem tx_inj {a b : Nat} (ha : a < 256) (hb : b < 256) (q : sb_b a = sb_b b) : a = b := by
  have h1 := (sb_byte a ha).1
  have h2 := (sb_byte b hb).1
  rw [q, h2] at h1
  exact ((nI_eq (by omega) (by omega)).mp h1).symm
theorem tx_ext {cs ds : List Nat} (hl : cs.length = ds.length) (hq : ∀ j, j < cs.length → cs.getD j 0 = ds.getD j 0) : cs = ds := by
  refine List.ext_getElem hl (fun i h1 h2 => ?_)
  have h3 := hq i h1
  simpa [List.getD_eq_getElem?_getD, h1, h2] using h3
theorem tx_lt {cs : List Nat} (hc : ∀ x ∈ cs, x < 256) (j : Nat) : cs.getD j 0 < 256 := by
  rw [List.getD_eq_getElem?_getD]
  cases q : cs[j]? with
  | none => decide
  | some x => exact hc x (List.mem_of_getElem? q)
theorem tx_uniq {h : pd_H} {a : Nat} {cs ds : List Nat} (h1 : pd_Str h a cs) (h2 : pd_Str h a ds) : cs = ds := by
  obtain ⟨v, f, p1, p2, p3, p4, p5⟩ := h1
  obtain ⟨v', f', q1, q2, q3, q4, q5⟩ := h2
  rw [p1] at q1
  simp at q1
  subst q1
  rw [p2] at q2
  simp at q2
  obtain ⟨e1, e2⟩ := q2
  subst e2
  refine tx_ext e1 (fun j hj => tx_inj (tx_lt p4 j) (tx_lt q4 j) ?_)
  rw [← p3 j hj, ← q3 j (by omega)]
/-- the place of the first such letter -/
def tx_ix (cs : List Nat) (x : Nat) : Option Nat := cs.findIdx? (fun y => y == x)
theorem tx_ix_some {cs : List Nat} {x i : Nat} (hi : i < cs.length) (hj : ∀ j, j < i → ¬ cs.getD j 0 = x) (hx : cs.getD i 0 = x) : tx_ix cs x = some i := by
  unfold tx_ix
  rw [List.findIdx?_eq_some_iff_getElem]
  refine ⟨hi, ?_, fun j hlt => ?_⟩
  · simpa [List.getD_eq_getElem?_getD, hi] using hx
  · have := hj j hlt
    have hjl : j < cs.length := by omega
    simpa [List.getD_eq_getElem?_getD, hjl] using this
theorem tx_ix_none {cs : List Nat} {x : Nat} (hj : ∀ j, j < cs.length → ¬ cs.getD j 0 = x) : tx_ix cs x = none := by
  unfold tx_ix
  rw [List.findIdx?_eq_none_iff]
  intro y hy
  obtain ⟨j, hjl, rfl⟩ := List.mem_iff_getElem.mp hy
  have := hj j hjl
  simpa [List.getD_eq_getElem?_getD, hjl] using this
theorem tx_ix_lt {cs : List Nat} {x i : Nat} (q : tx_ix cs x = some i) : i < cs.length := by
  unfold tx_ix at q
  rw [List.findIdx?_eq_some_iff_getElem] at q
  exact q.1
theorem tx_ix_le {cs : List Nat} {x : Nat} (hl : cs.length ≤ 60) : ∀ i, tx_ix cs x = some i → i < 2 ^ 31 := fun i q => by have := tx_ix_lt q; omega
theorem d_p39m11_0 : decode prog_39_method_11_code 0 = .ok (.iload_n 0, 1) := by decide +kernel
theorem d_p39m11_1 : decode prog_39_method_11_code 1 = .ok (.ifCond .lt 8, 3) := by decide +kernel
theorem d_p39m11_4 : decode prog_39_method_11_code 4 = .ok (.iload_n 0, 1) := by decide +kernel
theorem d_p39m11_5 : decode prog_39_method_11_code 5 = .ok (.iload_n 1, 1) := by decide +kernel
theorem d_p39m11_6 : decode prog_39_method_11_code 6 = .ok (.if_icmp .lt 10, 3) := by decide +kernel
theorem d_p39m11_9 : decode prog_39_method_11_code 9 = .ok (.aload_n 2, 1) := by decide +kernel
theorem d_p39m11_10 : decode prog_39_method_11_code 10 = .ok (.iload_n 0, 1) := by decide +kernel
theorem d_p39m11_11 : decode prog_39_method_11_code 11 = .ok (.iload_n 1, 1) := by decide +kernel
theorem d_p39m11_12 : decode prog_39_method_11_code 12 = .ok (.invokestatic 95, 3) := by decide +kernel
theorem d_p39m11_15 : decode prog_39_method_11_code 15 = .ok (.athrow, 1) := by decide +kernel
theorem d_p39m11_16 : decode prog_39_method_11_code 16 = .ok (.iload_n 0, 1) := by decide +kernel
theorem d_p39m11_17 : decode prog_39_method_11_code 17 = .ok (.ireturn, 1) := by decide +kernel
abbrev y_Preconditions_checkIndex : MethodName := ⟨"jdk/internal/util/Preconditions", "checkIndex", "(IILjava/util/function/BiFunction;)I"⟩
theorem ok_Preconditions_checkIndex : pd_ok y_Preconditions_checkIndex prog_39_method_11_code 3 (some .int) 3 := ⟨mT_119, mT_9, by decide, by decide +kernel⟩
abbrev rm_Preconditions_checkIndex : Room := { frames := 0, cells := 0, slots := 0, locals := 0 }
set_option maxHeartbeats 4000000 in
set_option maxRecDepth 100000 in
theorem c_Preconditions_checkIndex (l : Launch) (G : pd_G) (h : pd_H) {x y : Nat} {fm : Option Nat} (hxy : x < y) (hy1 : y < 2 ^ 31) : pd_M l y_Preconditions_checkIndex prog_39_method_11_code 3 (some .int) rm_Preconditions_checkIndex G h [.int (nI x), .int (nI y), va_rf fm] pd_vn (fun r h1 => r = x ∧ h = h1) := by
  refine pd_M.of (by decide) (by cases fm <;> exact Nat.le_of_ble_eq_true rfl) ?_
  intro p e s m below meth c X hmn w ls hl
  have hx := X.1
  have hb := X.2.1
  have hl : lv_has ls 3 [(0, .int (nI x)), (1, .int (nI y)), (2, va_rf fm)] := by simp only [lv_args, pd_cat] at hl; simpa [Value.category] using hl
  refine lv_iload_n hx hb d_p39m11_0 rfl (lv_at hl 0 rfl) ?_
  refine pd_zlt (tgt := 9) hx hb d_p39m11_1 (by decide) (by omega) ?_
  refine lv_iload_n hx hb d_p39m11_4 rfl (lv_at hl 0 rfl) ?_
  refine lv_iload_n hx hb d_p39m11_5 rfl (lv_at hl 1 rfl) ?_
  refine pd_jlt (tgt := 16) hx hb d_p39m11_6 (by decide) (by omega) (by omega) (fun q2 => ?_) (fun q2 => ?_)
  · -- taken: 16
    refine lv_iload_n hx hb d_p39m11_16 rfl (lv_at hl 0 rfl) ?_
    exact pd_nret (v := x) X w ⟨rfl, rfl⟩ (by decide) (by decide) d_p39m11_17
  · -- not taken: 9
    exfalso
    omega
theorem d_p39m12_0 : decode prog_39_method_12_code 0 = .ok (.iload_n 0, 1) := by decide +kernel
theorem d_p39m12_1 : decode prog_39_method_12_code 1 = .ok (.ifCond .lt 13, 3) := by decide +kernel
theorem d_p39m12_4 : decode prog_39_method_12_code 4 = .ok (.iload_n 0, 1) := by decide +kernel
theorem d_p39m12_5 : decode prog_39_method_12_code 5 = .ok (.iload_n 1, 1) := by decide +kernel
theorem d_p39m12_6 : decode prog_39_method_12_code 6 = .ok (.if_icmp .gt 8, 3) := by decide +kernel
theorem d_p39m12_9 : decode prog_39_method_12_code 9 = .ok (.iload_n 1, 1) := by decide +kernel
theorem d_p39m12_10 : decode prog_39_method_12_code 10 = .ok (.iload_n 2, 1) := by decide +kernel
theorem d_p39m12_11 : decode prog_39_method_12_code 11 = .ok (.if_icmp .le 11, 3) := by decide +kernel
theorem d_p39m12_14 : decode prog_39_method_12_code 14 = .ok (.aload_n 3, 1) := by decide +kernel
theorem d_p39m12_15 : decode prog_39_method_12_code 15 = .ok (.iload_n 0, 1) := by decide +kernel
theorem d_p39m12_16 : decode prog_39_method_12_code 16 = .ok (.iload_n 1, 1) := by decide +kernel
theorem d_p39m12_17 : decode prog_39_method_12_code 17 = .ok (.iload_n 2, 1) := by decide +kernel
theorem d_p39m12_18 : decode prog_39_method_12_code 18 = .ok (.invokestatic 99, 3) := by decide +kernel
theorem d_p39m12_21 : decode prog_39_method_12_code 21 = .ok (.athrow, 1) := by decide +kernel
theorem d_p39m12_22 : decode prog_39_method_12_code 22 = .ok (.iload_n 0, 1) := by decide +kernel
theorem d_p39m12_23 : decode prog_39_method_12_code 23 = .ok (.ireturn, 1) := by decide +kernel
abbrev y_Preconditions_checkFromToIndex : MethodName := ⟨"jdk/internal/util/Preconditions", "checkFromToIndex", "(IIILjava/util/function/BiFunction;)I"⟩
theorem ok_Preconditions_checkFromToIndex : pd_ok y_Preconditions_checkFromToIndex prog_39_method_12_code 4 (some .int) 4 := ⟨mT_588, mT_9, by decide, by decide +kernel⟩
abbrev rm_Preconditions_checkFromToIndex : Room := { frames := 0, cells := 0, slots := 0, locals := 0 }
set_option maxHeartbeats 4000000 in
set_option maxRecDepth 100000 in
theorem c_Preconditions_checkFromToIndex (l : Launch) (G : pd_G) (h : pd_H) {x y z : Nat} {fm : Option Nat} (hxy : x ≤ y) (hyz : y ≤ z) (hz1 : z < 2 ^ 31) : pd_M l y_Preconditions_checkFromToIndex prog_39_method_12_code 4 (some .int) rm_Preconditions_checkFromToIndex G h [.int (nI x), .int (nI y), .int (nI z), va_rf fm] pd_vn (fun r h1 => r = x ∧ h = h1) := by
  refine pd_M.of (by decide) (by cases fm <;> exact Nat.le_of_ble_eq_true rfl) ?_
  intro p e s m below meth c X hmn w ls hl
  have hx := X.1
  have hb := X.2.1
  have hl : lv_has ls 4 [(0, .int (nI x)), (1, .int (nI y)), (2, .int (nI z)), (3, va_rf fm)] := by simp only [lv_args, pd_cat] at hl; simpa [Value.category] using hl
  refine lv_iload_n hx hb d_p39m12_0 rfl (lv_at hl 0 rfl) ?_
  refine pd_zlt (tgt := 14) hx hb d_p39m12_1 (by decide) (by omega) ?_
  refine lv_iload_n hx hb d_p39m12_4 rfl (lv_at hl 0 rfl) ?_
  refine lv_iload_n hx hb d_p39m12_5 rfl (lv_at hl 1 rfl) ?_
  refine pd_jgt (tgt := 14) hx hb d_p39m12_6 (by decide) (by omega) (by omega) (fun q2 => ?_) (fun q2 => ?_)
  · -- taken: 14
    exfalso
    omega
  · -- not taken: 9
    refine lv_iload_n hx hb d_p39m12_9 rfl (lv_at hl 1 rfl) ?_
    refine lv_iload_n hx hb d_p39m12_10 rfl (lv_at hl 2 rfl) ?_
    refine pd_jle (tgt := 22) hx hb d_p39m12_11 (by decide) (by omega) (by omega) (fun q3 => ?_) (fun q3 => ?_)
    · -- taken: 22
      refine lv_iload_n hx hb d_p39m12_22 rfl (lv_at hl 0 rfl) ?_
      exact pd_nret (v := x) X w ⟨rfl, rfl⟩ (by decide) (by decide) d_p39m12_23
    · -- not taken: 14
      exfalso
      omega
theorem d_p24m155_0 : decode prog_24_method_155_code 0 = .ok (.iload_n 0, 1) := by decide +kernel
theorem d_p24m155_1 : decode prog_24_method_155_code 1 = .ok (.iload_n 1, 1) := by decide +kernel
theorem d_p24m155_2 : decode prog_24_method_155_code 2 = .ok (.getstatic 1053, 3) := by decide +kernel
theorem d_p24m155_5 : decode prog_24_method_155_code 5 = .ok (.invokestatic 1059, 3) := by decide +kernel
theorem d_p24m155_8 : decode prog_24_method_155_code 8 = .ok (.pop, 1) := by decide +kernel
theorem d_p24m155_9 : decode prog_24_method_155_code 9 = .ok (.return_, 1) := by decide +kernel
abbrev y_String_checkIndex : MethodName := ⟨"java/lang/String", "checkIndex", "(II)V"⟩
theorem ok_String_checkIndex : pd_ok y_String_checkIndex prog_24_method_155_code 2 none 2 := ⟨mT_114, mT_4, by decide, by decide +kernel⟩
abbrev rm_String_checkIndex : Room := { frames := 1, cells := 0, slots := 0, locals := 22 }
set_option maxHeartbeats 4000000 in
set_option maxRecDepth 100000 in
theorem c_String_checkIndex (l : Launch) (G : pd_G) (h : pd_H) {x y : Nat} (hxy : x < y) (hy1 : y < 2 ^ 31) : pd_Mv l y_String_checkIndex prog_24_method_155_code 2 rm_String_checkIndex G h [.int (nI x), .int (nI y)] (fun h1 => h = h1) := by
  refine pd_Mv.of (by decide) (Nat.le_of_ble_eq_true rfl) ?_
  intro p e s m below meth c X hmn w ls hl
  have hx := X.1
  have hb := X.2.1
  have hl : lv_has ls 2 [(0, .int (nI x)), (1, .int (nI y))] := hl
  refine lv_iload_n hx hb d_p24m155_0 rfl (lv_at hl 0 rfl) ?_
  refine lv_iload_n hx hb d_p24m155_1 rfl (lv_at hl 1 rfl) ?_
  refine pd_getq X w (pd_fmt X) mT_115 d_p24m155_2 (fun o1 => ?_)
  refine pd_cS (As := [.int (nI x), .int (nI y), va_rf o1]) (rest := []) X w (c_Preconditions_checkIndex l G h (by omega) (by omega)) ok_Preconditions_checkIndex mT_118 mT_117 ⟨by decide, by decide⟩ rfl hl.1 rfl (Nat.le_of_ble_eq_true rfl) d_p24m155_5 ⟨by decide, by decide⟩ (fun r2 h3 H locs hp4 w => ?_)
  refine W.widen (k := 0) (n := 0) (by decide) (by decide) ?_
  obtain ⟨e5, rfl⟩ := hp4
  refine lv_pop hx hb d_p24m155_8 rfl ?_
  exact pd_vret X w rfl (by decide) (by decide) d_p24m155_9
theorem d_p24m158_0 : decode prog_24_method_158_code 0 = .ok (.iload_n 0, 1) := by decide +kernel
theorem d_p24m158_1 : decode prog_24_method_158_code 1 = .ok (.iload_n 1, 1) := by decide +kernel
theorem d_p24m158_2 : decode prog_24_method_158_code 2 = .ok (.iload_n 2, 1) := by decide +kernel
theorem d_p24m158_3 : decode prog_24_method_158_code 3 = .ok (.getstatic 1053, 3) := by decide +kernel
theorem d_p24m158_6 : decode prog_24_method_158_code 6 = .ok (.invokestatic 1062, 3) := by decide +kernel
theorem d_p24m158_9 : decode prog_24_method_158_code 9 = .ok (.pop, 1) := by decide +kernel
theorem d_p24m158_10 : decode prog_24_method_158_code 10 = .ok (.return_, 1) := by decide +kernel
abbrev y_String_checkBoundsBeginEnd : MethodName := ⟨"java/lang/String", "checkBoundsBeginEnd", "(III)V"⟩
theorem ok_String_checkBoundsBeginEnd : pd_ok y_String_checkBoundsBeginEnd prog_24_method_158_code 3 none 3 := ⟨mT_585, mT_4, by decide, by decide +kernel⟩
abbrev rm_String_checkBoundsBeginEnd : Room := { frames := 1, cells := 0, slots := 0, locals := 23 }
set_option maxHeartbeats 4000000 in
set_option maxRecDepth 100000 in
theorem c_String_checkBoundsBeginEnd (l : Launch) (G : pd_G) (h : pd_H) {x y z : Nat} (hxy : x ≤ y) (hyz : y ≤ z) (hz1 : z < 2 ^ 31) : pd_Mv l y_String_checkBoundsBeginEnd prog_24_method_158_code 3 rm_String_checkBoundsBeginEnd G h [.int (nI x), .int (nI y), .int (nI z)] (fun h1 => h = h1) := by
  refine pd_Mv.of (by decide) (Nat.le_of_ble_eq_true rfl) ?_
  intro p e s m below meth c X hmn w ls hl
  have hx := X.1
  have hb := X.2.1
  have hl : lv_has ls 3 [(0, .int (nI x)), (1, .int (nI y)), (2, .int (nI z))] := hl
  refine lv_iload_n hx hb d_p24m158_0 rfl (lv_at hl 0 rfl) ?_
  refine lv_iload_n hx hb d_p24m158_1 rfl (lv_at hl 1 rfl) ?_
  refine lv_iload_n hx hb d_p24m158_2 rfl (lv_at hl 2 rfl) ?_
  refine pd_getq X w (pd_fmt X) mT_115 d_p24m158_3 (fun o1 => ?_)
  refine pd_cS (As := [.int (nI x), .int (nI y), .int (nI z), va_rf o1]) (rest := []) X w (c_Preconditions_checkFromToIndex l G h (by omega) (by omega) (by omega)) ok_Preconditions_checkFromToIndex mT_587 mT_586 ⟨by decide, by decide⟩ rfl hl.1 rfl (Nat.le_of_ble_eq_true rfl) d_p24m158_6 ⟨by decide, by decide⟩ (fun r2 h3 H locs hp4 w => ?_)
  refine W.widen (k := 0) (n := 0) (by decide) (by decide) ?_
  obtain ⟨e5, rfl⟩ := hp4
  refine lv_pop hx hb d_p24m158_9 rfl ?_
  exact pd_vret X w rfl (by decide) (by decide) d_p24m158_10
theorem d_p24m152_0 : decode prog_24_method_152_code 0 = .ok (.getstatic 38, 3) := by decide +kernel
theorem d_p24m152_3 : decode prog_24_method_152_code 3 = .ok (.ifCond .eq 10, 3) := by decide +kernel
theorem d_p24m152_6 : decode prog_24_method_152_code 6 = .ok (.aload_n 0, 1) := by decide +kernel
theorem d_p24m152_7 : decode prog_24_method_152_code 7 = .ok (.getfield 15, 3) := by decide +kernel
theorem d_p24m152_10 : decode prog_24_method_152_code 10 = .ok (.goto 4, 3) := by decide +kernel
theorem d_p24m152_13 : decode prog_24_method_152_code 13 = .ok (.iconst 1, 1) := by decide +kernel
theorem d_p24m152_14 : decode prog_24_method_152_code 14 = .ok (.ireturn, 1) := by decide +kernel
abbrev y_String_coder : MethodName := ⟨"java/lang/String", "coder", "()B"⟩
theorem ok_String_coder : pd_ok y_String_coder prog_24_method_152_code 1 (some .byte) 0 := ⟨mT_99, mT_4, by decide, by decide +kernel⟩
abbrev rm_String_coder : Room := { frames := 0, cells := 0, slots := 0, locals := 0 }
set_option maxHeartbeats 4000000 in
set_option maxRecDepth 100000 in
theorem c_String_coder (l : Launch) (G : pd_G) (h : pd_H) {a : Nat} {cs : List Nat} (hS : pd_Str h a cs) : pd_M l y_String_coder prog_24_method_152_code 1 (some .byte) rm_String_coder G h [.ref a] pd_vn (fun r h1 => r = 0 ∧ h = h1) := by
  refine pd_M.of (by decide) (Nat.le_of_ble_eq_true rfl) ?_
  intro p e s m below meth c X hmn w ls hl
  have hx := X.1
  have hb := X.2.1
  have hl : lv_has ls 1 [(0, .ref a)] := hl
  obtain ⟨v1, f1, hv1, hv2, hvf, hvc, hvl⟩ := id hS
  refine pd_gets X w (List.mem_of_getElem? (i := 0) rfl) mT_100 d_p24m152_0 ?_
  refine pd_zeq (tgt := 13) hx hb d_p24m152_3 (by decide) (by decide) (fun q => absurd q (by decide)) (fun _ => ?_)
  refine lv_aload_n hx hb d_p24m152_6 rfl (lv_at hl 0 rfl) ?_
  refine pd_get X w hv1 rfl 1 (by decide) mT_521 rfl rfl d_p24m152_7 ?_
  refine lv_goto (tgt := 14) hx hb d_p24m152_10 (by decide) ?_
  exact pd_ncret (v := 0) X (by decide) w ⟨rfl, rfl⟩ (by decide) (by decide) d_p24m152_14
theorem d_p24m154_0 : decode prog_24_method_154_code 0 = .ok (.getstatic 38, 3) := by decide +kernel
theorem d_p24m154_3 : decode prog_24_method_154_code 3 = .ok (.ifCond .eq 14, 3) := by decide +kernel
theorem d_p24m154_6 : decode prog_24_method_154_code 6 = .ok (.aload_n 0, 1) := by decide +kernel
theorem d_p24m154_7 : decode prog_24_method_154_code 7 = .ok (.getfield 15, 3) := by decide +kernel
theorem d_p24m154_10 : decode prog_24_method_154_code 10 = .ok (.ifCond .ne 7, 3) := by decide +kernel
theorem d_p24m154_13 : decode prog_24_method_154_code 13 = .ok (.iconst 1, 1) := by decide +kernel
theorem d_p24m154_14 : decode prog_24_method_154_code 14 = .ok (.goto 4, 3) := by decide +kernel
theorem d_p24m154_17 : decode prog_24_method_154_code 17 = .ok (.iconst 0, 1) := by decide +kernel
theorem d_p24m154_18 : decode prog_24_method_154_code 18 = .ok (.ireturn, 1) := by decide +kernel
abbrev y_String_isLatin1 : MethodName := ⟨"java/lang/String", "isLatin1", "()Z"⟩
theorem ok_String_isLatin1 : pd_ok y_String_isLatin1 prog_24_method_154_code 1 (some .boolean) 0 := ⟨mT_108, mT_4, by decide, by decide +kernel⟩
abbrev rm_String_isLatin1 : Room := { frames := 0, cells := 0, slots := 0, locals := 0 }
set_option maxHeartbeats 4000000 in
set_option maxRecDepth 100000 in
theorem c_String_isLatin1 (l : Launch) (G : pd_G) (h : pd_H) {a : Nat} {cs : List Nat} (hS : pd_Str h a cs) : pd_M l y_String_isLatin1 prog_24_method_154_code 1 (some .boolean) rm_String_isLatin1 G h [.ref a] pd_vb (fun r h1 => r = true ∧ h = h1) := by
  refine pd_M.of (by decide) (Nat.le_of_ble_eq_true rfl) ?_
  intro p e s m below meth c X hmn w ls hl
  have hx := X.1
  have hb := X.2.1
  have hl : lv_has ls 1 [(0, .ref a)] := hl
  obtain ⟨v1, f1, hv1, hv2, hvf, hvc, hvl⟩ := id hS
  refine pd_gets X w (List.mem_of_getElem? (i := 0) rfl) mT_100 d_p24m154_0 ?_
  refine pd_zeq (tgt := 17) hx hb d_p24m154_3 (by decide) (by decide) (fun q => absurd q (by decide)) (fun _ => ?_)
  refine lv_aload_n hx hb d_p24m154_6 rfl (lv_at hl 0 rfl) ?_
  refine pd_get X w hv1 rfl 1 (by decide) mT_521 rfl rfl d_p24m154_7 ?_
  refine pd_zne (tgt := 17) hx hb d_p24m154_10 (by decide) (by decide) (fun q => absurd q (by decide)) (fun _ => ?_)
  refine lv_iconst (v := nI 1) hx hb d_p24m154_13 (by decide) ?_
  refine lv_goto (tgt := 18) hx hb d_p24m154_14 (by decide) ?_
  refine W.eq (g2 := F0 m 18 ls [.int (pd_b true)]) rfl ?_
  exact pd_zret (v := true) X w ⟨rfl, rfl⟩ (by decide) (by decide) d_p24m154_18
theorem d_p24m54_0 : decode prog_24_method_54_code 0 = .ok (.aload_n 0, 1) := by decide +kernel
theorem d_p24m54_1 : decode prog_24_method_54_code 1 = .ok (.getfield 9, 3) := by decide +kernel
theorem d_p24m54_4 : decode prog_24_method_54_code 4 = .ok (.arraylength, 1) := by decide +kernel
theorem d_p24m54_5 : decode prog_24_method_54_code 5 = .ok (.aload_n 0, 1) := by decide +kernel
theorem d_p24m54_6 : decode prog_24_method_54_code 6 = .ok (.invokevirtual 335, 3) := by decide +kernel
theorem d_p24m54_9 : decode prog_24_method_54_code 9 = .ok (.ishr, 1) := by decide +kernel
theorem d_p24m54_10 : decode prog_24_method_54_code 10 = .ok (.ireturn, 1) := by decide +kernel
abbrev y_String_length : MethodName := ⟨"java/lang/String", "length", "()I"⟩
theorem ok_String_length : pd_ok y_String_length prog_24_method_54_code 1 (some .int) 0 := ⟨mT_95, mT_4, by decide, by decide +kernel⟩
abbrev rm_String_length : Room := { frames := 1, cells := 0, slots := 0, locals := 20 }
set_option maxHeartbeats 4000000 in
set_option maxRecDepth 100000 in
theorem c_String_length (l : Launch) (G : pd_G) (h : pd_H) {a : Nat} {cs : List Nat} (hS : pd_Str h a cs) : pd_M l y_String_length prog_24_method_54_code 1 (some .int) rm_String_length G h [.ref a] pd_vn (fun r h1 => r = cs.length ∧ h = h1) := by
  refine pd_M.of (by decide) (Nat.le_of_ble_eq_true rfl) ?_
  intro p e s m below meth c X hmn w ls hl
  have hx := X.1
  have hb := X.2.1
  have hl : lv_has ls 1 [(0, .ref a)] := hl
  obtain ⟨v1, f1, hv1, hv2, hvf, hvc, hvl⟩ := id hS
  refine lv_aload_n hx hb d_p24m54_0 rfl (lv_at hl 0 rfl) ?_
  refine pd_get X w hv1 rfl 0 (by decide) mT_520 rfl rfl d_p24m54_1 ?_
  refine pd_alen X w hv2 d_p24m54_4 ?_
  refine lv_aload_n hx hb d_p24m54_5 rfl (lv_at hl 0 rfl) ?_
  refine pd_cV (a := a) (As := []) (rest := [.int (nI cs.length)]) X w hv1 rfl (c_String_coder l G h (by assumption)) ok_String_coder ⟨mT_97, mT_98⟩ mT_96 ⟨by decide, by decide⟩ rfl hl.1 rfl (Nat.le_of_ble_eq_true rfl) d_p24m54_6 ⟨by decide, by decide⟩ (fun r1 h2 H locs hp3 w => ?_)
  refine W.widen (k := 0) (n := 0) (by decide) (by decide) ?_
  obtain ⟨e4, rfl⟩ := hp3
  subst e4
  refine pd_ishr0 hx hb d_p24m54_9 ?_
  exact pd_nret (v := cs.length) X w ⟨rfl, rfl⟩ (by decide) (by decide) d_p24m54_10
theorem d_p24m55_0 : decode prog_24_method_55_code 0 = .ok (.aload_n 0, 1) := by decide +kernel
theorem d_p24m55_1 : decode prog_24_method_55_code 1 = .ok (.getfield 9, 3) := by decide +kernel
theorem d_p24m55_4 : decode prog_24_method_55_code 4 = .ok (.arraylength, 1) := by decide +kernel
theorem d_p24m55_5 : decode prog_24_method_55_code 5 = .ok (.ifCond .ne 7, 3) := by decide +kernel
theorem d_p24m55_8 : decode prog_24_method_55_code 8 = .ok (.iconst 1, 1) := by decide +kernel
theorem d_p24m55_9 : decode prog_24_method_55_code 9 = .ok (.goto 4, 3) := by decide +kernel
theorem d_p24m55_12 : decode prog_24_method_55_code 12 = .ok (.iconst 0, 1) := by decide +kernel
theorem d_p24m55_13 : decode prog_24_method_55_code 13 = .ok (.ireturn, 1) := by decide +kernel
abbrev y_String_isEmpty : MethodName := ⟨"java/lang/String", "isEmpty", "()Z"⟩
theorem ok_String_isEmpty : pd_ok y_String_isEmpty prog_24_method_55_code 1 (some .boolean) 0 := ⟨mT_712, mT_4, by decide, by decide +kernel⟩
abbrev rm_String_isEmpty : Room := { frames := 0, cells := 0, slots := 0, locals := 0 }
set_option maxHeartbeats 4000000 in
set_option maxRecDepth 100000 in
theorem c_String_isEmpty (l : Launch) (G : pd_G) (h : pd_H) {a : Nat} {cs : List Nat} (hS : pd_Str h a cs) : pd_M l y_String_isEmpty prog_24_method_55_code 1 (some .boolean) rm_String_isEmpty G h [.ref a] pd_vb (fun r h1 => r = decide (cs.length = 0) ∧ h = h1) := by
  refine pd_M.of (by decide) (Nat.le_of_ble_eq_true rfl) ?_
  intro p e s m below meth c X hmn w ls hl
  have hx := X.1
  have hb := X.2.1
  have hl : lv_has ls 1 [(0, .ref a)] := hl
  obtain ⟨v1, f1, hv1, hv2, hvf, hvc, hvl⟩ := id hS
  refine lv_aload_n hx hb d_p24m55_0 rfl (lv_at hl 0 rfl) ?_
  refine pd_get X w hv1 rfl 0 (by decide) mT_520 rfl rfl d_p24m55_1 ?_
  refine pd_alen X w hv2 d_p24m55_4 ?_
  refine pd_zne (tgt := 12) hx hb d_p24m55_5 (by decide) (by omega) (fun q1 => ?_) (fun q1 => ?_)
  · -- taken: 12
    refine lv_iconst (v := nI 0) hx hb d_p24m55_12 (by decide) ?_
    refine W.eq (g2 := F0 m 13 ls [.int (pd_b false)]) rfl ?_
    exact pd_zret (v := false) X w ⟨by first | exact (decide_eq_true (by omega)).symm | exact (decide_eq_false (by omega)).symm, rfl⟩ (by decide) (by decide) d_p24m55_13
  · -- not taken: 8
    refine lv_iconst (v := nI 1) hx hb d_p24m55_8 (by decide) ?_
    refine lv_goto (tgt := 13) hx hb d_p24m55_9 (by decide) ?_
    refine W.eq (g2 := F0 m 13 ls [.int (pd_b true)]) rfl ?_
    exact pd_zret (v := true) X w ⟨by first | exact (decide_eq_true (by omega)).symm | exact (decide_eq_false (by omega)).symm, rfl⟩ (by decide) (by decide) d_p24m55_13
theorem d_p26m2_0 : decode prog_26_method_2_code 0 = .ok (.iload_n 1, 1) := by decide +kernel
theorem d_p26m2_1 : decode prog_26_method_2_code 1 = .ok (.aload_n 0, 1) := by decide +kernel
theorem d_p26m2_2 : decode prog_26_method_2_code 2 = .ok (.arraylength, 1) := by decide +kernel
theorem d_p26m2_3 : decode prog_26_method_2_code 3 = .ok (.invokestatic 9, 3) := by decide +kernel
theorem d_p26m2_6 : decode prog_26_method_2_code 6 = .ok (.aload_n 0, 1) := by decide +kernel
theorem d_p26m2_7 : decode prog_26_method_2_code 7 = .ok (.iload_n 1, 1) := by decide +kernel
theorem d_p26m2_8 : decode prog_26_method_2_code 8 = .ok (.baload, 1) := by decide +kernel
theorem d_p26m2_9 : decode prog_26_method_2_code 9 = .ok (.sipush 255, 3) := by decide +kernel
theorem d_p26m2_12 : decode prog_26_method_2_code 12 = .ok (.iand, 1) := by decide +kernel
theorem d_p26m2_13 : decode prog_26_method_2_code 13 = .ok (.i2c, 1) := by decide +kernel
theorem d_p26m2_14 : decode prog_26_method_2_code 14 = .ok (.ireturn, 1) := by decide +kernel
abbrev y_StringLatin1_charAt : MethodName := ⟨"java/lang/StringLatin1", "charAt", "([BI)C"⟩
theorem ok_StringLatin1_charAt : pd_ok y_StringLatin1_charAt prog_26_method_2_code 2 (some .char) 2 := ⟨mT_111, mT_8, by decide, by decide +kernel⟩
abbrev rm_StringLatin1_charAt : Room := { frames := 2, cells := 0, slots := 0, locals := 43 }
set_option maxHeartbeats 4000000 in
set_option maxRecDepth 100000 in
theorem c_StringLatin1_charAt (l : Launch) (G : pd_G) (h : pd_H) {v1 n i ch tg : Nat} {f1 : Nat → Int32} (hv : h v1 = some (tg, .inl (.byte, n, .inl f1))) (hi : i < n) (hn : n < 2 ^ 30) (hch : ch < 256) (hfe : f1 i = sb_b ch) : pd_M l y_StringLatin1_charAt prog_26_method_2_code 2 (some .char) rm_StringLatin1_charAt G h [.ref v1, .int (nI i)] pd_vn (fun r h1 => r = ch ∧ h = h1) := by
  refine pd_M.of (by decide) (Nat.le_of_ble_eq_true rfl) ?_
  intro p e s m below meth c X hmn w ls hl
  have hx := X.1
  have hb := X.2.1
  have hl : lv_has ls 2 [(0, .ref v1), (1, .int (nI i))] := hl
  refine lv_iload_n hx hb d_p26m2_0 rfl (lv_at hl 1 rfl) ?_
  refine lv_aload_n hx hb d_p26m2_1 rfl (lv_at hl 0 rfl) ?_
  refine pd_alen X w hv d_p26m2_2 ?_
  refine pd_cSv (As := [.int (nI i), .int (nI n)]) (rest := []) X w (c_String_checkIndex l G h (by omega) (by omega)) ok_String_checkIndex mT_113 mT_112 ⟨by decide, by decide⟩ rfl hl.1 rfl (Nat.le_of_ble_eq_true rfl) d_p26m2_3 ⟨by decide, by decide⟩ (fun h2 H locs hp3 w => ?_)
  refine W.widen (k := 0) (n := 0) (by decide) (by decide) ?_
  subst hp3
  refine lv_aload_n hx hb d_p26m2_6 rfl (lv_at hl 0 rfl) ?_
  refine lv_iload_n hx hb d_p26m2_7 rfl (lv_at hl 1 rfl) ?_
  refine pd_bald X w hv (by omega) (by omega) d_p26m2_8 ?_
  refine lv_sipush (v := nI 255) hx hb d_p26m2_9 (by decide) ?_
  refine lv_iand hx hb d_p26m2_12 ?_
  refine pd_top (v' := .int (nI ch)) (by rw [hfe]; exact congrArg Value.int (sb_byte ch hch).1) ?_
  refine pd_i2c hx hb d_p26m2_13 (by omega) ?_
  exact pd_ncret (v := ch) X (pk_charN (by omega)).1 w ⟨rfl, rfl⟩ (by decide) (by decide) d_p26m2_14
theorem d_p24m56_0 : decode prog_24_method_56_code 0 = .ok (.aload_n 0, 1) := by decide +kernel
theorem d_p24m56_1 : decode prog_24_method_56_code 1 = .ok (.invokevirtual 492, 3) := by decide +kernel
theorem d_p24m56_4 : decode prog_24_method_56_code 4 = .ok (.ifCond .eq 12, 3) := by decide +kernel
theorem d_p24m56_7 : decode prog_24_method_56_code 7 = .ok (.aload_n 0, 1) := by decide +kernel
theorem d_p24m56_8 : decode prog_24_method_56_code 8 = .ok (.getfield 9, 3) := by decide +kernel
theorem d_p24m56_11 : decode prog_24_method_56_code 11 = .ok (.iload_n 1, 1) := by decide +kernel
theorem d_p24m56_12 : decode prog_24_method_56_code 12 = .ok (.invokestatic 495, 3) := by decide +kernel
theorem d_p24m56_15 : decode prog_24_method_56_code 15 = .ok (.ireturn, 1) := by decide +kernel
theorem d_p24m56_16 : decode prog_24_method_56_code 16 = .ok (.aload_n 0, 1) := by decide +kernel
theorem d_p24m56_17 : decode prog_24_method_56_code 17 = .ok (.getfield 9, 3) := by decide +kernel
theorem d_p24m56_20 : decode prog_24_method_56_code 20 = .ok (.iload_n 1, 1) := by decide +kernel
theorem d_p24m56_21 : decode prog_24_method_56_code 21 = .ok (.invokestatic 498, 3) := by decide +kernel
theorem d_p24m56_24 : decode prog_24_method_56_code 24 = .ok (.ireturn, 1) := by decide +kernel
abbrev y_String_charAt : MethodName := ⟨"java/lang/String", "charAt", "(I)C"⟩
theorem ok_String_charAt : pd_ok y_String_charAt prog_24_method_56_code 2 (some .char) 1 := ⟨mT_104, mT_4, by decide, by decide +kernel⟩
abbrev rm_String_charAt : Room := { frames := 3, cells := 0, slots := 0, locals := 64 }
set_option maxHeartbeats 4000000 in
set_option maxRecDepth 100000 in
theorem c_String_charAt (l : Launch) (G : pd_G) (h : pd_H) {a : Nat} {cs : List Nat} {i : Nat} (hS : pd_Str h a cs) (hi : i < cs.length) : pd_M l y_String_charAt prog_24_method_56_code 2 (some .char) rm_String_charAt G h [.ref a, .int (nI i)] pd_vn (fun r h1 => r = cs.getD i 0 ∧ r < 256 ∧ h = h1) := by
  refine pd_M.of (by decide) (Nat.le_of_ble_eq_true rfl) ?_
  intro p e s m below meth c X hmn w ls hl
  have hx := X.1
  have hb := X.2.1
  have hl : lv_has ls 2 [(0, .ref a), (1, .int (nI i))] := hl
  obtain ⟨v1, f1, hv1, hv2, hvf, hvc, hvl⟩ := id hS
  have hlt := tx_lt hvc i
  refine lv_aload_n hx hb d_p24m56_0 rfl (lv_at hl 0 rfl) ?_
  refine pd_cV (a := a) (As := []) (rest := []) X w hv1 rfl (c_String_isLatin1 l G h (by assumption)) ok_String_isLatin1 ⟨mT_106, mT_107⟩ mT_105 ⟨by decide, by decide⟩ rfl hl.1 rfl (Nat.le_of_ble_eq_true rfl) d_p24m56_1 ⟨by decide, by decide⟩ (fun r1 h2 H locs hp3 w => ?_)
  refine W.widen (k := 0) (n := 0) (by decide) (by decide) ?_
  obtain ⟨e4, rfl⟩ := hp3
  subst e4
  refine W.eq (g2 := F0 m 4 ls [.int (nI 1)]) rfl ?_
  refine pd_zeq (tgt := 16) hx hb d_p24m56_4 (by decide) (by decide) (fun q => absurd q (by decide)) (fun _ => ?_)
  refine lv_aload_n hx hb d_p24m56_7 rfl (lv_at hl 0 rfl) ?_
  refine pd_get X w hv1 rfl 0 (by decide) mT_520 rfl rfl d_p24m56_8 ?_
  refine lv_iload_n hx hb d_p24m56_11 rfl (lv_at hl 1 rfl) ?_
  refine pd_cS (As := [.ref v1, .int (nI i)]) (rest := []) X w (c_StringLatin1_charAt l G h (by assumption) (by omega) (by omega) (tx_lt hvc i) (hvf i hi)) ok_StringLatin1_charAt mT_110 mT_109 ⟨by decide, by decide⟩ rfl hl.1 rfl (Nat.le_of_ble_eq_true rfl) d_p24m56_12 ⟨by decide, by decide⟩ (fun r6 h7 H locs hp8 w => ?_)
  refine W.widen (k := 0) (n := 0) (by decide) (by decide) ?_
  obtain ⟨e9, rfl⟩ := hp8
  exact pd_ncret (v := r6) X (pk_charN (by omega)).1 w ⟨by assumption, by omega, rfl⟩ (by decide) (by decide) d_p24m56_15
