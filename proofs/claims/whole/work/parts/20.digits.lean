/-! numbers as digits -/
theorem pg_toInt {x : Nat} (h : x < 2 ^ 31) : (-nI x).toInt = -(x : Int) := by
  rw [Int32.toInt_neg, nI_toInt h]
  exact Int.bmod_eq_of_le (by omega) (by omega)
theorem pg_le {x : Nat} {y : Int32} (h : x < 2 ^ 31) : -nI x ≤ y ↔ -(x : Int) ≤ y.toInt := by rw [Int32.le_iff_toInt_le, pg_toInt h]
theorem pg_ge {x : Nat} {y : Int32} (h : x < 2 ^ 31) : y ≤ -nI x ↔ y.toInt ≤ -(x : Int) := by rw [Int32.le_iff_toInt_le, pg_toInt h]
theorem pg_lt {x : Nat} {y : Int32} (h : x < 2 ^ 31) : y < -nI x ↔ y.toInt < -(x : Int) := by rw [Int32.lt_iff_toInt_lt, pg_toInt h]
theorem pg_div : ∀ x ∈ List.range 1000, (-nI x) / nI 100 = -nI (x / 100) := by decide +kernel
theorem pg_rem : ∀ x ∈ List.range 1000, (-nI (x / 100)) * nI 100 - (-nI x) = nI (x % 100) := by decide +kernel
theorem pg_ones : ∀ x ∈ List.range 100, (pd_ones x).toInt8.toInt32 = sb_b (48 + x % 10) := by decide +kernel
theorem pg_tens : ∀ x ∈ List.range 100, (pd_tens x).toInt8.toInt32 = sb_b (48 + x / 10) := by decide +kernel
def gr_dig (x : Nat) : List Nat := if x < 10 then [48 + x] else if x < 100 then [48 + x / 10, 48 + x % 10] else [48 + x / 100, 48 + x / 10 % 10, 48 + x % 10]
theorem gr_dig_1 {x : Nat} (h : x < 10) : gr_dig x = [48 + x] := if_pos h
theorem gr_dig_2 {x : Nat} (h : 10 ≤ x) (h2 : x < 100) : gr_dig x = [48 + x / 10, 48 + x % 10] := (if_neg (by omega)).trans (if_pos h2)
theorem gr_dig_3 {x : Nat} (h : 100 ≤ x) : gr_dig x = [48 + x / 100, 48 + x / 10 % 10, 48 + x % 10] := (if_neg (by omega)).trans (if_neg (by omega))
theorem gr_dig_lt {x : Nat} (h : x < 1000) : ∀ z ∈ gr_dig x, z < 256 := by
  intro z hz
  unfold gr_dig at hz
  split at hz
  · simp at hz; omega
  · split at hz
    · simp at hz; omega
    · simp at hz; omega
theorem gr_dig_len {x : Nat} : 1 ≤ (gr_dig x).length ∧ (gr_dig x).length ≤ 3 := by
  unfold gr_dig
  split
  · simp
  · split
    · simp
    · simp
section PDID
variable {p : Program} {l : Launch} {e : Env} {R : Room} {s : State} {m : MethodId} {args : Array Value} {below : List Frame} {meth : Method} {c : Code} {H : Heap} {locs : List Loc} {cells slots : Nat} {Q : State → Prop}
variable {cc : ByteArray} {pc index : Nat} {ls : Array Slot} {rest : List Value} {a : Nat} {G : pd_G} {own : String} {ret : Option FieldType} {h : pd_H}
theorem pd_idec {i nL k : Nat} {lv lv' : List (Nat × Value)} (hx : p.tables.exec = Jvm.exec) (hb' : c.code = cc) (hdg : decode cc pc = .ok (.iinc i (-1), 3)) (h1 : 1 ≤ a) (hl : lv_has ls nL lv) (hk : lv[k]? = some (i, .int (nI a))) (hn : i < nL) (he : (i, Value.int (nI (a - 1))) :: lv.filter (fun q => !(q.1 == i) && !(q.1 + 1 == i && q.2.category == 2)) = lv')
    (kk : ∀ ls' : Array Slot, lv_has ls' nL lv' → W p l e R s m args below meth c H locs cells slots Q (F0 m (pc + 3) ls' rest)) : W p l e R s m args below meth c H locs cells slots Q (F0 m pc ls rest) :=
  lv_iinc (v := nI (a - 1)) hx hb' hdg hl hk (by rw [← pk_sub h1]; rw [Int32.sub_eq_add_neg]; rfl) hn he kk
variable {nL : Nat}
theorem pd_onesA (X : pd_B p s m args meth c G own cc nL ret) (w : pd_w G s H locs h) : h (G.2.2.2 3) = some (0, .inl (.byte, 100, .inl pd_ones)) := w.2.1 _ _ (pd_Kf_of X).2.2.2.2.1
theorem pd_tensA (X : pd_B p s m args meth c G own cc nL ret) (w : pd_w G s H locs h) : h (G.2.2.2 4) = some (0, .inl (.byte, 100, .inl pd_tens)) := w.2.1 _ _ (pd_Kf_of X).2.2.2.2.2.1
end PDID
theorem d_p21m13_0 : decode prog_21_method_13_code 0 = .ok (.iconst 1, 1) := by decide +kernel
theorem d_p21m13_1 : decode prog_21_method_13_code 1 = .ok (.istore_n 1, 1) := by decide +kernel
theorem d_p21m13_2 : decode prog_21_method_13_code 2 = .ok (.iload_n 0, 1) := by decide +kernel
theorem d_p21m13_3 : decode prog_21_method_13_code 3 = .ok (.ifCond .lt 8, 3) := by decide +kernel
theorem d_p21m13_6 : decode prog_21_method_13_code 6 = .ok (.iconst 0, 1) := by decide +kernel
theorem d_p21m13_7 : decode prog_21_method_13_code 7 = .ok (.istore_n 1, 1) := by decide +kernel
theorem d_p21m13_8 : decode prog_21_method_13_code 8 = .ok (.iload_n 0, 1) := by decide +kernel
theorem d_p21m13_9 : decode prog_21_method_13_code 9 = .ok (.ineg, 1) := by decide +kernel
theorem d_p21m13_10 : decode prog_21_method_13_code 10 = .ok (.istore_n 0, 1) := by decide +kernel
theorem d_p21m13_11 : decode prog_21_method_13_code 11 = .ok (.bipush (-10), 2) := by decide +kernel
theorem d_p21m13_13 : decode prog_21_method_13_code 13 = .ok (.istore_n 2, 1) := by decide +kernel
theorem d_p21m13_14 : decode prog_21_method_13_code 14 = .ok (.iconst 1, 1) := by decide +kernel
theorem d_p21m13_15 : decode prog_21_method_13_code 15 = .ok (.istore_n 3, 1) := by decide +kernel
theorem d_p21m13_16 : decode prog_21_method_13_code 16 = .ok (.iload_n 3, 1) := by decide +kernel
theorem d_p21m13_17 : decode prog_21_method_13_code 17 = .ok (.bipush 10, 2) := by decide +kernel
theorem d_p21m13_19 : decode prog_21_method_13_code 19 = .ok (.if_icmp .ge 23, 3) := by decide +kernel
theorem d_p21m13_22 : decode prog_21_method_13_code 22 = .ok (.iload_n 0, 1) := by decide +kernel
theorem d_p21m13_23 : decode prog_21_method_13_code 23 = .ok (.iload_n 2, 1) := by decide +kernel
theorem d_p21m13_24 : decode prog_21_method_13_code 24 = .ok (.if_icmp .le 7, 3) := by decide +kernel
theorem d_p21m13_27 : decode prog_21_method_13_code 27 = .ok (.iload_n 3, 1) := by decide +kernel
theorem d_p21m13_28 : decode prog_21_method_13_code 28 = .ok (.iload_n 1, 1) := by decide +kernel
theorem d_p21m13_29 : decode prog_21_method_13_code 29 = .ok (.iadd, 1) := by decide +kernel
theorem d_p21m13_30 : decode prog_21_method_13_code 30 = .ok (.ireturn, 1) := by decide +kernel
theorem d_p21m13_31 : decode prog_21_method_13_code 31 = .ok (.bipush 10, 2) := by decide +kernel
theorem d_p21m13_33 : decode prog_21_method_13_code 33 = .ok (.iload_n 2, 1) := by decide +kernel
theorem d_p21m13_34 : decode prog_21_method_13_code 34 = .ok (.imul, 1) := by decide +kernel
theorem d_p21m13_35 : decode prog_21_method_13_code 35 = .ok (.istore_n 2, 1) := by decide +kernel
theorem d_p21m13_36 : decode prog_21_method_13_code 36 = .ok (.iinc 3 1, 3) := by decide +kernel
theorem d_p21m13_39 : decode prog_21_method_13_code 39 = .ok (.goto (-23), 3) := by decide +kernel
theorem d_p21m13_42 : decode prog_21_method_13_code 42 = .ok (.bipush 10, 2) := by decide +kernel
theorem d_p21m13_44 : decode prog_21_method_13_code 44 = .ok (.iload_n 1, 1) := by decide +kernel
theorem d_p21m13_45 : decode prog_21_method_13_code 45 = .ok (.iadd, 1) := by decide +kernel
theorem d_p21m13_46 : decode prog_21_method_13_code 46 = .ok (.ireturn, 1) := by decide +kernel
abbrev y_Integer_stringSize : MethodName := ⟨"java/lang/Integer", "stringSize", "(I)I"⟩
theorem ok_Integer_stringSize : pd_ok y_Integer_stringSize prog_21_method_13_code 4 (some .int) 1 := ⟨mT_1006, mT_31, by decide, by decide +kernel⟩
abbrev rm_Integer_stringSize : Room := { frames := 0, cells := 0, slots := 0, locals := 0 }
set_option maxHeartbeats 4000000 in
set_option maxRecDepth 100000 in
theorem c_Integer_stringSize (l : Launch) (G : pd_G) (h : pd_H) {x : Nat} (hx1 : x < 1000) : pd_M l y_Integer_stringSize prog_21_method_13_code 4 (some .int) rm_Integer_stringSize G h [.int (nI x)] pd_vn (fun r h1 => r = (gr_dig x).length ∧ h = h1) := by
  refine pd_M.of (by decide) (Nat.le_of_ble_eq_true rfl) ?_
  intro p e s m below meth c X hmn w ls hl
  have hx := X.1
  have hb := X.2.1
  have hl : lv_has ls 4 [(0, .int (nI x))] := hl
  refine lv_iconst (v := nI 1) hx hb d_p21m13_0 (by decide) ?_
  refine lv_istore_n (lv' := [(1, .int (nI 1)), (0, .int (nI x))]) hx hb d_p21m13_1 rfl hl (by decide) rfl (fun ls hl => ?_)
  refine lv_iload_n hx hb d_p21m13_2 rfl (lv_at hl 1 rfl) ?_
  refine pd_zlt (tgt := 11) hx hb d_p21m13_3 (by decide) (by omega) ?_
  refine lv_iconst (v := nI 0) hx hb d_p21m13_6 (by decide) ?_
  refine lv_istore_n (lv' := [(1, .int (nI 0)), (0, .int (nI x))]) hx hb d_p21m13_7 rfl hl (by decide) rfl (fun ls hl => ?_)
  refine lv_iload_n hx hb d_p21m13_8 rfl (lv_at hl 1 rfl) ?_
  refine lv_ineg hx hb d_p21m13_9 ?_
  refine lv_istore_n (lv' := [(0, .int (-(nI x))), (1, .int (nI 0))]) hx hb d_p21m13_10 rfl hl (by decide) rfl (fun ls hl => ?_)
  refine lv_bipush (v := -10) hx hb d_p21m13_11 (by decide) ?_
  refine lv_istore_n (lv' := [(2, .int (-10)), (0, .int (-(nI x))), (1, .int (nI 0))]) hx hb d_p21m13_13 rfl hl (by decide) rfl (fun ls hl => ?_)
  refine lv_iconst (v := nI 1) hx hb d_p21m13_14 (by decide) ?_
  refine lv_istore_n (lv' := [(3, .int (nI 1)), (2, .int (-10)), (0, .int (-(nI x))), (1, .int (nI 0))]) hx hb d_p21m13_15 rfl hl (by decide) rfl (fun ls hl => ?_)
  refine lv_iload_n hx hb d_p21m13_16 rfl (lv_at hl 0 rfl) ?_
  refine lv_bipush (v := nI 10) hx hb d_p21m13_17 (by decide) ?_
  refine pd_jge (tgt := 42) hx hb d_p21m13_19 (by decide) (by decide) (by decide) (fun q => absurd q (by decide)) (fun _ => ?_)
  refine lv_iload_n hx hb d_p21m13_22 rfl (lv_at hl 2 rfl) ?_
  refine lv_iload_n hx hb d_p21m13_23 rfl (lv_at hl 1 rfl) ?_
  refine lv_icmp_le (tgt := 31) hx hb d_p21m13_24 (by decide) (fun q3 => ?_) (fun q3 => ?_)
  · -- taken: 31
    have q3n := (pg_le (by omega)).mp q3
    have q3m : (-10 : Int32).toInt = -10 := by decide
    refine lv_bipush (v := nI 10) hx hb d_p21m13_31 (by decide) ?_
    refine lv_iload_n hx hb d_p21m13_33 rfl (lv_at hl 1 rfl) ?_
    refine lv_imul hx hb d_p21m13_34 ?_
    refine pd_top (v' := .int (-100)) (by decide) ?_
    refine lv_istore_n (lv' := [(2, .int (-100)), (3, .int (nI 1)), (0, .int (-(nI x))), (1, .int (nI 0))]) hx hb d_p21m13_35 rfl hl (by decide) rfl (fun ls hl => ?_)
    refine pd_iinc (k := 1) (d := 1) (lv' := [(3, .int (nI 2)), (2, .int (-100)), (0, .int (-(nI x))), (1, .int (nI 0))]) hx hb d_p21m13_36 (by decide) hl rfl (by decide) rfl (fun ls hl => ?_)
    refine lv_goto (tgt := 16) hx hb d_p21m13_39 (by decide) ?_
    refine lv_iload_n hx hb d_p21m13_16 rfl (lv_at hl 0 rfl) ?_
    refine lv_bipush (v := nI 10) hx hb d_p21m13_17 (by decide) ?_
    refine pd_jge (tgt := 42) hx hb d_p21m13_19 (by decide) (by decide) (by decide) (fun q => absurd q (by decide)) (fun _ => ?_)
    refine lv_iload_n hx hb d_p21m13_22 rfl (lv_at hl 2 rfl) ?_
    refine lv_iload_n hx hb d_p21m13_23 rfl (lv_at hl 1 rfl) ?_
    refine lv_icmp_le (tgt := 31) hx hb d_p21m13_24 (by decide) (fun q5 => ?_) (fun q5 => ?_)
    · -- taken: 31
      have q5n := (pg_le (by omega)).mp q5
      have q5m : (-100 : Int32).toInt = -100 := by decide
      refine lv_bipush (v := nI 10) hx hb d_p21m13_31 (by decide) ?_
      refine lv_iload_n hx hb d_p21m13_33 rfl (lv_at hl 1 rfl) ?_
      refine lv_imul hx hb d_p21m13_34 ?_
      refine pd_top (v' := .int (-1000)) (by decide) ?_
      refine lv_istore_n (lv' := [(2, .int (-1000)), (3, .int (nI 2)), (0, .int (-(nI x))), (1, .int (nI 0))]) hx hb d_p21m13_35 rfl hl (by decide) rfl (fun ls hl => ?_)
      refine pd_iinc (k := 1) (d := 1) (lv' := [(3, .int (nI 3)), (2, .int (-1000)), (0, .int (-(nI x))), (1, .int (nI 0))]) hx hb d_p21m13_36 (by decide) hl rfl (by decide) rfl (fun ls hl => ?_)
      refine lv_goto (tgt := 16) hx hb d_p21m13_39 (by decide) ?_
      refine lv_iload_n hx hb d_p21m13_16 rfl (lv_at hl 0 rfl) ?_
      refine lv_bipush (v := nI 10) hx hb d_p21m13_17 (by decide) ?_
      refine pd_jge (tgt := 42) hx hb d_p21m13_19 (by decide) (by decide) (by decide) (fun q => absurd q (by decide)) (fun _ => ?_)
      refine lv_iload_n hx hb d_p21m13_22 rfl (lv_at hl 2 rfl) ?_
      refine lv_iload_n hx hb d_p21m13_23 rfl (lv_at hl 1 rfl) ?_
      refine lv_icmp_le (tgt := 31) hx hb d_p21m13_24 (by decide) (fun q7 => ?_) (fun q7 => ?_)
      · -- taken: 31
        have q7n := (pg_le (by omega)).mp q7
        have q7m : (-1000 : Int32).toInt = -1000 := by decide
        exfalso
        omega
      · -- not taken: 27
        have q7n := fun z => q7 ((pg_le (x := x) (by omega)).mpr z)
        have q7m : (-1000 : Int32).toInt = -1000 := by decide
        have q7o : ¬ -(x : Int) ≤ -1000 := by rw [← q7m]; exact q7n
        refine lv_iload_n hx hb d_p21m13_27 rfl (lv_at hl 0 rfl) ?_
        refine lv_iload_n hx hb d_p21m13_28 rfl (lv_at hl 3 rfl) ?_
        refine pd_iadd hx hb d_p21m13_29 ?_
        exact pd_nret (v := (3 + 0)) X w ⟨by first | (rw [gr_dig_1 (by omega)]; rfl) | (rw [gr_dig_2 (by omega) (by omega)]; rfl) | (rw [gr_dig_3 (by omega)]; rfl), rfl⟩ (by decide) (by decide) d_p21m13_30
    · -- not taken: 27
      have q5n := fun z => q5 ((pg_le (x := x) (by omega)).mpr z)
      have q5m : (-100 : Int32).toInt = -100 := by decide
      have q5o : ¬ -(x : Int) ≤ -100 := by rw [← q5m]; exact q5n
      refine lv_iload_n hx hb d_p21m13_27 rfl (lv_at hl 0 rfl) ?_
      refine lv_iload_n hx hb d_p21m13_28 rfl (lv_at hl 3 rfl) ?_
      refine pd_iadd hx hb d_p21m13_29 ?_
      exact pd_nret (v := (2 + 0)) X w ⟨by first | (rw [gr_dig_1 (by omega)]; rfl) | (rw [gr_dig_2 (by omega) (by omega)]; rfl) | (rw [gr_dig_3 (by omega)]; rfl), rfl⟩ (by decide) (by decide) d_p21m13_30
  · -- not taken: 27
    have q3n := fun z => q3 ((pg_le (x := x) (by omega)).mpr z)
    have q3m : (-10 : Int32).toInt = -10 := by decide
    have q3o : ¬ -(x : Int) ≤ -10 := by rw [← q3m]; exact q3n
    refine lv_iload_n hx hb d_p21m13_27 rfl (lv_at hl 0 rfl) ?_
    refine lv_iload_n hx hb d_p21m13_28 rfl (lv_at hl 3 rfl) ?_
    refine pd_iadd hx hb d_p21m13_29 ?_
    exact pd_nret (v := (1 + 0)) X w ⟨by first | (rw [gr_dig_1 (by omega)]; rfl) | (rw [gr_dig_2 (by omega) (by omega)]; rfl) | (rw [gr_dig_3 (by omega)]; rfl), rfl⟩ (by decide) (by decide) d_p21m13_30
theorem pg_w1 {f : Nat → Int32} {k x : Nat} (hx : x < 10) (hk : 1 ≤ k) : (∀ j, j < (gr_dig x).length → upd f (k - 1) (pd_ones x).toInt8.toInt32 (k - (gr_dig x).length + j) = sb_b ((gr_dig x).getD j 0)) ∧ ∀ j, j < k - (gr_dig x).length → upd f (k - 1) (pd_ones x).toInt8.toInt32 j = f j := by
  rw [gr_dig_1 hx]
  refine ⟨fun j hj => ?_, fun j hj => pk_un (by simp at hj; omega)⟩
  have : j = 0 := by simp at hj; omega
  subst this
  rw [pg_ones x (List.mem_range.mpr (by omega))]
  simp [pk_us, Nat.mod_eq_of_lt hx]
theorem pg_w2 {f : Nat → Int32} {k x : Nat} (h1 : 10 ≤ x) (hx : x < 100) (hk : 2 ≤ k) : (∀ j, j < (gr_dig x).length → upd (upd f (k - 1) (pd_ones x).toInt8.toInt32) (k - 1 - 1) (pd_tens x).toInt8.toInt32 (k - (gr_dig x).length + j) = sb_b ((gr_dig x).getD j 0)) ∧ ∀ j, j < k - (gr_dig x).length → upd (upd f (k - 1) (pd_ones x).toInt8.toInt32) (k - 1 - 1) (pd_tens x).toInt8.toInt32 j = f j := by
  rw [gr_dig_2 h1 hx]
  refine ⟨fun j hj => ?_, fun j hj => by rw [pk_un (by simp at hj; omega), pk_un (by simp at hj; omega)]⟩
  rcases (show j = 0 ∨ j = 1 by simp at hj; omega) with e | e
  · subst e
    rw [show k - [48 + x / 10, 48 + x % 10].length + 0 = k - 1 - 1 by simp; omega, pk_us, pg_tens x (List.mem_range.mpr hx)]
    rfl
  · subst e
    rw [show k - [48 + x / 10, 48 + x % 10].length + 1 = k - 1 by simp; omega, pk_un (by omega), pk_us, pg_ones x (List.mem_range.mpr hx)]
    rfl
theorem pg_w3 {f : Nat → Int32} {k x : Nat} (h1 : 100 ≤ x) (hx : x < 1000) (hk : 3 ≤ k) : (∀ j, j < (gr_dig x).length → upd (upd (upd f (k - 1) (pd_ones (x % 100)).toInt8.toInt32) (k - 1 - 1) (pd_tens (x % 100)).toInt8.toInt32) (k - 1 - 1 - 1) (pd_ones (x / 100)).toInt8.toInt32 (k - (gr_dig x).length + j) = sb_b ((gr_dig x).getD j 0)) ∧ ∀ j, j < k - (gr_dig x).length → upd (upd (upd f (k - 1) (pd_ones (x % 100)).toInt8.toInt32) (k - 1 - 1) (pd_tens (x % 100)).toInt8.toInt32) (k - 1 - 1 - 1) (pd_ones (x / 100)).toInt8.toInt32 j = f j := by
  rw [gr_dig_3 h1]
  refine ⟨fun j hj => ?_, fun j hj => by rw [pk_un (by simp at hj; omega), pk_un (by simp at hj; omega), pk_un (by simp at hj; omega)]⟩
  rcases (show j = 0 ∨ j = 1 ∨ j = 2 by simp at hj; omega) with e | e | e
  · subst e
    rw [show k - [48 + x / 100, 48 + x / 10 % 10, 48 + x % 10].length + 0 = k - 1 - 1 - 1 by simp; omega, pk_us, pg_ones _ (List.mem_range.mpr (by omega))]
    show sb_b _ = sb_b (48 + x / 100)
    rw [Nat.mod_eq_of_lt (by omega)]
  · subst e
    rw [show k - [48 + x / 100, 48 + x / 10 % 10, 48 + x % 10].length + 1 = k - 1 - 1 by simp; omega, pk_un (by omega), pk_us, pg_tens _ (List.mem_range.mpr (by omega))]
    show sb_b _ = sb_b (48 + x / 10 % 10)
    congr 1; omega
  · subst e
    rw [show k - [48 + x / 100, 48 + x / 10 % 10, 48 + x % 10].length + 2 = k - 1 by simp; omega, pk_un (by omega), pk_un (by omega), pk_us, pg_ones _ (List.mem_range.mpr (by omega))]
    show sb_b _ = sb_b (48 + x % 10)
    congr 1; omega
theorem d_p21m12_0 : decode prog_21_method_12_code 0 = .ok (.iload_n 1, 1) := by decide +kernel
theorem d_p21m12_1 : decode prog_21_method_12_code 1 = .ok (.istore 5, 2) := by decide +kernel
theorem d_p21m12_3 : decode prog_21_method_12_code 3 = .ok (.iload_n 0, 1) := by decide +kernel
theorem d_p21m12_4 : decode prog_21_method_12_code 4 = .ok (.ifCond .ge 7, 3) := by decide +kernel
theorem d_p21m12_7 : decode prog_21_method_12_code 7 = .ok (.iconst 1, 1) := by decide +kernel
theorem d_p21m12_8 : decode prog_21_method_12_code 8 = .ok (.goto 4, 3) := by decide +kernel
theorem d_p21m12_11 : decode prog_21_method_12_code 11 = .ok (.iconst 0, 1) := by decide +kernel
theorem d_p21m12_12 : decode prog_21_method_12_code 12 = .ok (.istore 6, 2) := by decide +kernel
theorem d_p21m12_14 : decode prog_21_method_12_code 14 = .ok (.iload 6, 2) := by decide +kernel
theorem d_p21m12_16 : decode prog_21_method_12_code 16 = .ok (.ifCond .ne 6, 3) := by decide +kernel
theorem d_p21m12_19 : decode prog_21_method_12_code 19 = .ok (.iload_n 0, 1) := by decide +kernel
theorem d_p21m12_20 : decode prog_21_method_12_code 20 = .ok (.ineg, 1) := by decide +kernel
theorem d_p21m12_21 : decode prog_21_method_12_code 21 = .ok (.istore_n 0, 1) := by decide +kernel
theorem d_p21m12_22 : decode prog_21_method_12_code 22 = .ok (.iload_n 0, 1) := by decide +kernel
theorem d_p21m12_23 : decode prog_21_method_12_code 23 = .ok (.bipush (-100), 2) := by decide +kernel
theorem d_p21m12_25 : decode prog_21_method_12_code 25 = .ok (.if_icmp .gt 47, 3) := by decide +kernel
theorem d_p21m12_28 : decode prog_21_method_12_code 28 = .ok (.iload_n 0, 1) := by decide +kernel
theorem d_p21m12_29 : decode prog_21_method_12_code 29 = .ok (.bipush 100, 2) := by decide +kernel
theorem d_p21m12_31 : decode prog_21_method_12_code 31 = .ok (.idiv, 1) := by decide +kernel
theorem d_p21m12_32 : decode prog_21_method_12_code 32 = .ok (.istore_n 3, 1) := by decide +kernel
theorem d_p21m12_33 : decode prog_21_method_12_code 33 = .ok (.iload_n 3, 1) := by decide +kernel
theorem d_p21m12_34 : decode prog_21_method_12_code 34 = .ok (.bipush 100, 2) := by decide +kernel
theorem d_p21m12_36 : decode prog_21_method_12_code 36 = .ok (.imul, 1) := by decide +kernel
theorem d_p21m12_37 : decode prog_21_method_12_code 37 = .ok (.iload_n 0, 1) := by decide +kernel
theorem d_p21m12_38 : decode prog_21_method_12_code 38 = .ok (.isub, 1) := by decide +kernel
theorem d_p21m12_39 : decode prog_21_method_12_code 39 = .ok (.istore 4, 2) := by decide +kernel
theorem d_p21m12_41 : decode prog_21_method_12_code 41 = .ok (.iload_n 3, 1) := by decide +kernel
theorem d_p21m12_42 : decode prog_21_method_12_code 42 = .ok (.istore_n 0, 1) := by decide +kernel
theorem d_p21m12_43 : decode prog_21_method_12_code 43 = .ok (.aload_n 2, 1) := by decide +kernel
theorem d_p21m12_44 : decode prog_21_method_12_code 44 = .ok (.iinc 5 (-1), 3) := by decide +kernel
theorem d_p21m12_47 : decode prog_21_method_12_code 47 = .ok (.iload 5, 2) := by decide +kernel
theorem d_p21m12_49 : decode prog_21_method_12_code 49 = .ok (.getstatic 83, 3) := by decide +kernel
theorem d_p21m12_52 : decode prog_21_method_12_code 52 = .ok (.iload 4, 2) := by decide +kernel
theorem d_p21m12_54 : decode prog_21_method_12_code 54 = .ok (.baload, 1) := by decide +kernel
theorem d_p21m12_55 : decode prog_21_method_12_code 55 = .ok (.bastore, 1) := by decide +kernel
theorem d_p21m12_56 : decode prog_21_method_12_code 56 = .ok (.aload_n 2, 1) := by decide +kernel
theorem d_p21m12_57 : decode prog_21_method_12_code 57 = .ok (.iinc 5 (-1), 3) := by decide +kernel
theorem d_p21m12_60 : decode prog_21_method_12_code 60 = .ok (.iload 5, 2) := by decide +kernel
theorem d_p21m12_62 : decode prog_21_method_12_code 62 = .ok (.getstatic 87, 3) := by decide +kernel
theorem d_p21m12_65 : decode prog_21_method_12_code 65 = .ok (.iload 4, 2) := by decide +kernel
theorem d_p21m12_67 : decode prog_21_method_12_code 67 = .ok (.baload, 1) := by decide +kernel
theorem d_p21m12_68 : decode prog_21_method_12_code 68 = .ok (.bastore, 1) := by decide +kernel
theorem d_p21m12_69 : decode prog_21_method_12_code 69 = .ok (.goto (-47), 3) := by decide +kernel
theorem d_p21m12_72 : decode prog_21_method_12_code 72 = .ok (.aload_n 2, 1) := by decide +kernel
theorem d_p21m12_73 : decode prog_21_method_12_code 73 = .ok (.iinc 5 (-1), 3) := by decide +kernel
theorem d_p21m12_76 : decode prog_21_method_12_code 76 = .ok (.iload 5, 2) := by decide +kernel
theorem d_p21m12_78 : decode prog_21_method_12_code 78 = .ok (.getstatic 83, 3) := by decide +kernel
theorem d_p21m12_81 : decode prog_21_method_12_code 81 = .ok (.iload_n 0, 1) := by decide +kernel
theorem d_p21m12_82 : decode prog_21_method_12_code 82 = .ok (.ineg, 1) := by decide +kernel
theorem d_p21m12_83 : decode prog_21_method_12_code 83 = .ok (.baload, 1) := by decide +kernel
theorem d_p21m12_84 : decode prog_21_method_12_code 84 = .ok (.bastore, 1) := by decide +kernel
theorem d_p21m12_85 : decode prog_21_method_12_code 85 = .ok (.iload_n 0, 1) := by decide +kernel
theorem d_p21m12_86 : decode prog_21_method_12_code 86 = .ok (.bipush (-9), 2) := by decide +kernel
theorem d_p21m12_88 : decode prog_21_method_12_code 88 = .ok (.if_icmp .ge 16, 3) := by decide +kernel
theorem d_p21m12_91 : decode prog_21_method_12_code 91 = .ok (.aload_n 2, 1) := by decide +kernel
theorem d_p21m12_92 : decode prog_21_method_12_code 92 = .ok (.iinc 5 (-1), 3) := by decide +kernel
theorem d_p21m12_95 : decode prog_21_method_12_code 95 = .ok (.iload 5, 2) := by decide +kernel
theorem d_p21m12_97 : decode prog_21_method_12_code 97 = .ok (.getstatic 87, 3) := by decide +kernel
theorem d_p21m12_100 : decode prog_21_method_12_code 100 = .ok (.iload_n 0, 1) := by decide +kernel
theorem d_p21m12_101 : decode prog_21_method_12_code 101 = .ok (.ineg, 1) := by decide +kernel
theorem d_p21m12_102 : decode prog_21_method_12_code 102 = .ok (.baload, 1) := by decide +kernel
theorem d_p21m12_103 : decode prog_21_method_12_code 103 = .ok (.bastore, 1) := by decide +kernel
theorem d_p21m12_104 : decode prog_21_method_12_code 104 = .ok (.iload 6, 2) := by decide +kernel
theorem d_p21m12_106 : decode prog_21_method_12_code 106 = .ok (.ifCond .eq 12, 3) := by decide +kernel
theorem d_p21m12_109 : decode prog_21_method_12_code 109 = .ok (.aload_n 2, 1) := by decide +kernel
theorem d_p21m12_110 : decode prog_21_method_12_code 110 = .ok (.iinc 5 (-1), 3) := by decide +kernel
theorem d_p21m12_113 : decode prog_21_method_12_code 113 = .ok (.iload 5, 2) := by decide +kernel
theorem d_p21m12_115 : decode prog_21_method_12_code 115 = .ok (.bipush 45, 2) := by decide +kernel
theorem d_p21m12_117 : decode prog_21_method_12_code 117 = .ok (.bastore, 1) := by decide +kernel
theorem d_p21m12_118 : decode prog_21_method_12_code 118 = .ok (.iload 5, 2) := by decide +kernel
theorem d_p21m12_120 : decode prog_21_method_12_code 120 = .ok (.ireturn, 1) := by decide +kernel
abbrev y_Integer_getChars : MethodName := ⟨"java/lang/Integer", "getChars", "(II[B)I"⟩
theorem ok_Integer_getChars : pd_ok y_Integer_getChars prog_21_method_12_code 7 (some .int) 3 := ⟨mT_1009, mT_31, by decide, by decide +kernel⟩
abbrev rm_Integer_getChars : Room := { frames := 0, cells := 0, slots := 0, locals := 0 }
set_option maxHeartbeats 4000000 in
set_option maxRecDepth 100000 in
theorem c_Integer_getChars (l : Launch) (G : pd_G) (h : pd_H) {x k v t2 cap : Nat} {f : Nat → Int32} (hx1 : x < 1000) (hov : h v = some (t2, .inl (.byte, cap, .inl f))) (hz_v : G.2.1 ≤ v) (h02 : t2 ≠ 0) (hkc : k ≤ cap) (hcap : cap ≤ 200) (hkd : (gr_dig x).length ≤ k) (hfit : sb_Fit f) : pd_M l y_Integer_getChars prog_21_method_12_code 7 (some .int) rm_Integer_getChars G h [.int (nI x), .int (nI k), .ref v] pd_vn (fun r h1 => r = k - (gr_dig x).length ∧ pd_kq v h h1 ∧ ∃ f2 : Nat → Int32, h1 v = some (t2, .inl (.byte, cap, .inl f2)) ∧ (∀ j, j < (gr_dig x).length → f2 (k - (gr_dig x).length + j) = sb_b ((gr_dig x).getD j 0)) ∧ (∀ j, j < k - (gr_dig x).length → f2 j = f j) ∧ sb_Fit f2) := by
  refine pd_M.of (by decide) (Nat.le_of_ble_eq_true rfl) ?_
  intro p e s m below meth c X hmn w ls hl
  have hx := X.1
  have hb := X.2.1
  have hl : lv_has ls 7 [(0, .int (nI x)), (1, .int (nI k)), (2, .ref v)] := hl
  have h02s := Ne.symm h02
  have hk1 : 1 ≤ k := Nat.le_trans gr_dig_len.1 hkd
  have hk2 : 10 ≤ x → 2 ≤ k := fun z => Nat.le_trans (by by_cases y : x < 100; rw [gr_dig_2 z y]; exact Nat.le_refl _; rw [gr_dig_3 (by omega)]; exact Nat.le_succ _) hkd
  have hk3 : 100 ≤ x → 3 ≤ k := fun z => by rw [gr_dig_3 z] at hkd; exact hkd
  refine lv_iload_n hx hb d_p21m12_0 rfl (lv_at hl 1 rfl) ?_
  refine lv_istore (lv' := [(5, .int (nI k)), (0, .int (nI x)), (1, .int (nI k)), (2, .ref v)]) hx hb d_p21m12_1 hl (by decide) rfl (fun ls hl => ?_)
  refine lv_iload_n hx hb d_p21m12_3 rfl (lv_at hl 1 rfl) ?_
  refine pd_zge (tgt := 11) hx hb d_p21m12_4 (by decide) (by omega) ?_
  refine lv_iconst (v := nI 0) hx hb d_p21m12_11 (by decide) ?_
  refine lv_istore (lv' := [(6, .int (nI 0)), (5, .int (nI k)), (0, .int (nI x)), (1, .int (nI k)), (2, .ref v)]) hx hb d_p21m12_12 hl (by decide) rfl (fun ls hl => ?_)
  refine lv_iload hx hb d_p21m12_14 (lv_at hl 0 rfl) ?_
  refine pd_zne (tgt := 22) hx hb d_p21m12_16 (by decide) (by decide) (fun q => absurd q (by decide)) (fun _ => ?_)
  refine lv_iload_n hx hb d_p21m12_19 rfl (lv_at hl 2 rfl) ?_
  refine lv_ineg hx hb d_p21m12_20 ?_
  refine lv_istore_n (lv' := [(0, .int (-(nI x))), (6, .int (nI 0)), (5, .int (nI k)), (1, .int (nI k)), (2, .ref v)]) hx hb d_p21m12_21 rfl hl (by decide) rfl (fun ls hl => ?_)
  refine lv_iload_n hx hb d_p21m12_22 rfl (lv_at hl 0 rfl) ?_
  refine lv_bipush (v := -100) hx hb d_p21m12_23 (by decide) ?_
  refine lv_icmp_gt (tgt := 72) hx hb d_p21m12_25 (by decide) (fun q3 => ?_) (fun q3 => ?_)
  · -- taken: 72
    have q3m : (-100 : Int32).toInt = -100 := by decide
    have q3n : (-100 : Int) < -((x : Nat) : Int) := by rw [← q3m]; exact (pg_lt (by omega)).mp q3
    refine lv_aload_n hx hb d_p21m12_72 rfl (lv_at hl 4 rfl) ?_
    refine pd_idec (k := 2) (lv' := [(5, .int (nI (k - 1))), (0, .int (-(nI x))), (6, .int (nI 0)), (1, .int (nI k)), (2, .ref v)]) hx hb d_p21m12_73 (by omega) hl rfl (by decide) rfl (fun ls hl => ?_)
    refine lv_iload hx hb d_p21m12_76 (lv_at hl 0 rfl) ?_
    refine pd_gets X w (List.mem_of_getElem? (i := 4) rfl) mT_1010 d_p21m12_78 ?_
    have f4 := pd_onesA X w
    refine lv_iload_n hx hb d_p21m12_81 rfl (lv_at hl 1 rfl) ?_
    refine lv_ineg hx hb d_p21m12_82 ?_
    refine pd_top (v' := .int (nI x)) (by rw [Int32.neg_neg]) ?_
    refine pd_bald X w f4 (by omega) (by omega) d_p21m12_83 ?_
    refine pd_bast X w hov hz_v (by omega) (by omega) d_p21m12_84 (fun H locs w => ?_)
    have w : pd_w G s H locs (pd_up h v (t2, .inl (.byte, cap, .inl (upd f (k - 1) ((pd_ones x).toInt8.toInt32))))) := w
    obtain ⟨h5, u8⟩ : ∃ z, z = pd_up h v (t2, .inl (.byte, cap, .inl (upd f (k - 1) ((pd_ones x).toInt8.toInt32)))) := ⟨_, rfl⟩
    rw [← u8] at w
    have k6 : pd_kq v h h5 := by rw [u8]; exact pd_up_kq
    have f7 : h5 v = some (t2, .inl (.byte, cap, .inl (upd f (k - 1) ((pd_ones x).toInt8.toInt32)))) := by rw [u8]; exact pd_up_s _ _ _
    have f9 := k6 _ _ (pd_ne f4 hov (by simp [h02, h02s])) f4
    refine lv_iload_n hx hb d_p21m12_85 rfl (lv_at hl 1 rfl) ?_
    refine lv_bipush (v := -9) hx hb d_p21m12_86 (by decide) ?_
    refine lv_icmp_ge (tgt := 104) hx hb d_p21m12_88 (by decide) (fun q10 => ?_) (fun q10 => ?_)
    · -- taken: 104
      have q10m : (-9 : Int32).toInt = -9 := by decide
      have q10n : (-9 : Int) ≤ -((x : Nat) : Int) := by rw [← q10m]; exact (pg_ge (by omega)).mp q10
      refine lv_iload hx hb d_p21m12_104 (lv_at hl 2 rfl) ?_
      refine pd_zeq (tgt := 118) hx hb d_p21m12_106 (by decide) (by decide) (fun _ => ?_) (fun q => absurd q (by decide))
      refine lv_iload hx hb d_p21m12_118 (lv_at hl 0 rfl) ?_
      have hwd := pg_w1 (f := f) (k := k) (x := x) (by omega) (by omega)
      exact pd_nret (v := (k - 1)) X w ⟨by first | (rw [gr_dig_1 (by omega)]; rfl) | (rw [gr_dig_2 (by omega) (by omega)]; rfl) | (rw [gr_dig_3 (by omega)]; rfl), k6, _, f7, hwd.1, hwd.2, sb_fitU (hfit) (pk_fb _)⟩ (by decide) (by decide) d_p21m12_120
    · -- not taken: 91
      have q10m : (-9 : Int32).toInt = -9 := by decide
      have q10n : ¬ (-9 : Int) ≤ -((x : Nat) : Int) := fun z => q10 ((pg_ge (by omega)).mpr (by rw [q10m]; exact z))
      refine lv_aload_n hx hb d_p21m12_91 rfl (lv_at hl 4 rfl) ?_
      refine pd_idec (k := 0) (lv' := [(5, .int (nI (k - 1 - 1))), (0, .int (-(nI x))), (6, .int (nI 0)), (1, .int (nI k)), (2, .ref v)]) hx hb d_p21m12_92 (by omega) hl rfl (by decide) rfl (fun ls hl => ?_)
      refine lv_iload hx hb d_p21m12_95 (lv_at hl 0 rfl) ?_
      refine pd_gets X w (List.mem_of_getElem? (i := 5) rfl) mT_1012 d_p21m12_97 ?_
      have f12 := pd_tensA X w
      refine lv_iload_n hx hb d_p21m12_100 rfl (lv_at hl 1 rfl) ?_
      refine lv_ineg hx hb d_p21m12_101 ?_
      refine pd_top (v' := .int (nI x)) (by rw [Int32.neg_neg]) ?_
      refine pd_bald X w f12 (by omega) (by omega) d_p21m12_102 ?_
      refine pd_bast X w f7 hz_v (by omega) (by omega) d_p21m12_103 (fun H locs w => ?_)
      have w : pd_w G s H locs (pd_up h5 v (t2, .inl (.byte, cap, .inl (upd (upd f (k - 1) ((pd_ones x).toInt8.toInt32)) (k - 1 - 1) ((pd_tens x).toInt8.toInt32))))) := w
      obtain ⟨h13, u16⟩ : ∃ z, z = pd_up h5 v (t2, .inl (.byte, cap, .inl (upd (upd f (k - 1) ((pd_ones x).toInt8.toInt32)) (k - 1 - 1) ((pd_tens x).toInt8.toInt32)))) := ⟨_, rfl⟩
      rw [← u16] at w
      have k14 : pd_kq v h5 h13 := by rw [u16]; exact pd_up_kq
      have f15 : h13 v = some (t2, .inl (.byte, cap, .inl (upd (upd f (k - 1) ((pd_ones x).toInt8.toInt32)) (k - 1 - 1) ((pd_tens x).toInt8.toInt32)))) := by rw [u16]; exact pd_up_s _ _ _
      have f17 := k14 _ _ (pd_ne f9 f7 (by simp [h02, h02s])) f9
      have f18 := k14 _ _ (pd_ne f12 f7 (by simp [h02, h02s])) f12
      refine lv_iload hx hb d_p21m12_104 (lv_at hl 2 rfl) ?_
      refine pd_zeq (tgt := 118) hx hb d_p21m12_106 (by decide) (by decide) (fun _ => ?_) (fun q => absurd q (by decide))
      refine lv_iload hx hb d_p21m12_118 (lv_at hl 0 rfl) ?_
      have hwd := pg_w2 (f := f) (k := k) (x := x) (by omega) (by omega) (by omega)
      exact pd_nret (v := (k - 1 - 1)) X w ⟨by first | (rw [gr_dig_1 (by omega)]; rfl) | (rw [gr_dig_2 (by omega) (by omega)]; rfl) | (rw [gr_dig_3 (by omega)]; rfl), (k6).tr (k14), _, f15, hwd.1, hwd.2, sb_fitU (sb_fitU (hfit) (pk_fb _)) (pk_fb _)⟩ (by decide) (by decide) d_p21m12_120
  · -- not taken: 28
    have q3m : (-100 : Int32).toInt = -100 := by decide
    have q3n : ¬ (-100 : Int) < -((x : Nat) : Int) := fun z => q3 ((pg_lt (by omega)).mpr (by rw [q3m]; exact z))
    refine lv_iload_n hx hb d_p21m12_28 rfl (lv_at hl 0 rfl) ?_
    refine lv_bipush (v := nI 100) hx hb d_p21m12_29 (by decide) ?_
    refine lv_idiv hx hb d_p21m12_31 (by decide) ?_
    refine pd_top (v' := .int (-(nI (x / 100)))) (by rw [pg_div x (List.mem_range.mpr (by omega))]) ?_
    refine lv_istore_n (lv' := [(3, .int (-(nI (x / 100)))), (0, .int (-(nI x))), (6, .int (nI 0)), (5, .int (nI k)), (1, .int (nI k)), (2, .ref v)]) hx hb d_p21m12_32 rfl hl (by decide) rfl (fun ls hl => ?_)
    refine lv_iload_n hx hb d_p21m12_33 rfl (lv_at hl 0 rfl) ?_
    refine lv_bipush (v := nI 100) hx hb d_p21m12_34 (by decide) ?_
    refine lv_imul hx hb d_p21m12_36 ?_
    refine lv_iload_n hx hb d_p21m12_37 rfl (lv_at hl 1 rfl) ?_
    refine lv_isub hx hb d_p21m12_38 ?_
    refine pd_top (v' := .int (nI (x % 100))) (by rw [pg_rem x (List.mem_range.mpr (by omega))]) ?_
    refine lv_istore (lv' := [(4, .int (nI (x % 100))), (3, .int (-(nI (x / 100)))), (0, .int (-(nI x))), (6, .int (nI 0)), (5, .int (nI k)), (1, .int (nI k)), (2, .ref v)]) hx hb d_p21m12_39 hl (by decide) rfl (fun ls hl => ?_)
    refine lv_iload_n hx hb d_p21m12_41 rfl (lv_at hl 1 rfl) ?_
    refine lv_istore_n (lv' := [(0, .int (-(nI (x / 100)))), (4, .int (nI (x % 100))), (3, .int (-(nI (x / 100)))), (6, .int (nI 0)), (5, .int (nI k)), (1, .int (nI k)), (2, .ref v)]) hx hb d_p21m12_42 rfl hl (by decide) rfl (fun ls hl => ?_)
    refine lv_aload_n hx hb d_p21m12_43 rfl (lv_at hl 6 rfl) ?_
    refine pd_idec (k := 4) (lv' := [(5, .int (nI (k - 1))), (0, .int (-(nI (x / 100)))), (4, .int (nI (x % 100))), (3, .int (-(nI (x / 100)))), (6, .int (nI 0)), (1, .int (nI k)), (2, .ref v)]) hx hb d_p21m12_44 (by omega) hl rfl (by decide) rfl (fun ls hl => ?_)
    refine lv_iload hx hb d_p21m12_47 (lv_at hl 0 rfl) ?_
    refine pd_gets X w (List.mem_of_getElem? (i := 4) rfl) mT_1010 d_p21m12_49 ?_
    have f20 := pd_onesA X w
    refine lv_iload hx hb d_p21m12_52 (lv_at hl 2 rfl) ?_
    refine pd_bald X w f20 (by omega) (by omega) d_p21m12_54 ?_
    refine pd_bast X w hov hz_v (by omega) (by omega) d_p21m12_55 (fun H locs w => ?_)
    have w : pd_w G s H locs (pd_up h v (t2, .inl (.byte, cap, .inl (upd f (k - 1) ((pd_ones (x % 100)).toInt8.toInt32))))) := w
    obtain ⟨h21, u24⟩ : ∃ z, z = pd_up h v (t2, .inl (.byte, cap, .inl (upd f (k - 1) ((pd_ones (x % 100)).toInt8.toInt32)))) := ⟨_, rfl⟩
    rw [← u24] at w
    have k22 : pd_kq v h h21 := by rw [u24]; exact pd_up_kq
    have f23 : h21 v = some (t2, .inl (.byte, cap, .inl (upd f (k - 1) ((pd_ones (x % 100)).toInt8.toInt32)))) := by rw [u24]; exact pd_up_s _ _ _
    have f25 := k22 _ _ (pd_ne f20 hov (by simp [h02, h02s])) f20
    refine lv_aload_n hx hb d_p21m12_56 rfl (lv_at hl 6 rfl) ?_
    refine pd_idec (k := 0) (lv' := [(5, .int (nI (k - 1 - 1))), (0, .int (-(nI (x / 100)))), (4, .int (nI (x % 100))), (3, .int (-(nI (x / 100)))), (6, .int (nI 0)), (1, .int (nI k)), (2, .ref v)]) hx hb d_p21m12_57 (by omega) hl rfl (by decide) rfl (fun ls hl => ?_)
    refine lv_iload hx hb d_p21m12_60 (lv_at hl 0 rfl) ?_
    refine pd_gets X w (List.mem_of_getElem? (i := 5) rfl) mT_1012 d_p21m12_62 ?_
    have f26 := pd_tensA X w
    refine lv_iload hx hb d_p21m12_65 (lv_at hl 2 rfl) ?_
    refine pd_bald X w f26 (by omega) (by omega) d_p21m12_67 ?_
    refine pd_bast X w f23 hz_v (by omega) (by omega) d_p21m12_68 (fun H locs w => ?_)
    have w : pd_w G s H locs (pd_up h21 v (t2, .inl (.byte, cap, .inl (upd (upd f (k - 1) ((pd_ones (x % 100)).toInt8.toInt32)) (k - 1 - 1) ((pd_tens (x % 100)).toInt8.toInt32))))) := w
    obtain ⟨h27, u30⟩ : ∃ z, z = pd_up h21 v (t2, .inl (.byte, cap, .inl (upd (upd f (k - 1) ((pd_ones (x % 100)).toInt8.toInt32)) (k - 1 - 1) ((pd_tens (x % 100)).toInt8.toInt32)))) := ⟨_, rfl⟩
    rw [← u30] at w
    have k28 : pd_kq v h21 h27 := by rw [u30]; exact pd_up_kq
    have f29 : h27 v = some (t2, .inl (.byte, cap, .inl (upd (upd f (k - 1) ((pd_ones (x % 100)).toInt8.toInt32)) (k - 1 - 1) ((pd_tens (x % 100)).toInt8.toInt32)))) := by rw [u30]; exact pd_up_s _ _ _
    have f31 := k28 _ _ (pd_ne f25 f23 (by simp [h02, h02s])) f25
    have f32 := k28 _ _ (pd_ne f26 f23 (by simp [h02, h02s])) f26
    refine lv_goto (tgt := 22) hx hb d_p21m12_69 (by decide) ?_
    refine lv_iload_n hx hb d_p21m12_22 rfl (lv_at hl 1 rfl) ?_
    refine lv_bipush (v := -100) hx hb d_p21m12_23 (by decide) ?_
    refine lv_icmp_gt (tgt := 72) hx hb d_p21m12_25 (by decide) (fun q33 => ?_) (fun q33 => ?_)
    · -- taken: 72
      have q33m : (-100 : Int32).toInt = -100 := by decide
      have q33n : (-100 : Int) < -((x / 100 : Nat) : Int) := by rw [← q33m]; exact (pg_lt (by omega)).mp q33
      refine lv_aload_n hx hb d_p21m12_72 rfl (lv_at hl 6 rfl) ?_
      refine pd_idec (k := 0) (lv' := [(5, .int (nI (k - 1 - 1 - 1))), (0, .int (-(nI (x / 100)))), (4, .int (nI (x % 100))), (3, .int (-(nI (x / 100)))), (6, .int (nI 0)), (1, .int (nI k)), (2, .ref v)]) hx hb d_p21m12_73 (by omega) hl rfl (by decide) rfl (fun ls hl => ?_)
      refine lv_iload hx hb d_p21m12_76 (lv_at hl 0 rfl) ?_
      refine pd_gets X w (List.mem_of_getElem? (i := 4) rfl) mT_1010 d_p21m12_78 ?_
      have f34 := pd_onesA X w
      refine lv_iload_n hx hb d_p21m12_81 rfl (lv_at hl 1 rfl) ?_
      refine lv_ineg hx hb d_p21m12_82 ?_
      refine pd_top (v' := .int (nI (x / 100))) (by rw [Int32.neg_neg]) ?_
      refine pd_bald X w f34 (by omega) (by omega) d_p21m12_83 ?_
      refine pd_bast X w f29 hz_v (by omega) (by omega) d_p21m12_84 (fun H locs w => ?_)
      have w : pd_w G s H locs (pd_up h27 v (t2, .inl (.byte, cap, .inl (upd (upd (upd f (k - 1) ((pd_ones (x % 100)).toInt8.toInt32)) (k - 1 - 1) ((pd_tens (x % 100)).toInt8.toInt32)) (k - 1 - 1 - 1) ((pd_ones (x / 100)).toInt8.toInt32))))) := w
      obtain ⟨h35, u38⟩ : ∃ z, z = pd_up h27 v (t2, .inl (.byte, cap, .inl (upd (upd (upd f (k - 1) ((pd_ones (x % 100)).toInt8.toInt32)) (k - 1 - 1) ((pd_tens (x % 100)).toInt8.toInt32)) (k - 1 - 1 - 1) ((pd_ones (x / 100)).toInt8.toInt32)))) := ⟨_, rfl⟩
      rw [← u38] at w
      have k36 : pd_kq v h27 h35 := by rw [u38]; exact pd_up_kq
      have f37 : h35 v = some (t2, .inl (.byte, cap, .inl (upd (upd (upd f (k - 1) ((pd_ones (x % 100)).toInt8.toInt32)) (k - 1 - 1) ((pd_tens (x % 100)).toInt8.toInt32)) (k - 1 - 1 - 1) ((pd_ones (x / 100)).toInt8.toInt32)))) := by rw [u38]; exact pd_up_s _ _ _
      have f39 := k36 _ _ (pd_ne f34 f29 (by simp [h02, h02s])) f34
      have f40 := k36 _ _ (pd_ne f32 f29 (by simp [h02, h02s])) f32
      refine lv_iload_n hx hb d_p21m12_85 rfl (lv_at hl 1 rfl) ?_
      refine lv_bipush (v := -9) hx hb d_p21m12_86 (by decide) ?_
      refine lv_icmp_ge (tgt := 104) hx hb d_p21m12_88 (by decide) (fun q41 => ?_) (fun q41 => ?_)
      · -- taken: 104
        have q41m : (-9 : Int32).toInt = -9 := by decide
        have q41n : (-9 : Int) ≤ -((x / 100 : Nat) : Int) := by rw [← q41m]; exact (pg_ge (by omega)).mp q41
        refine lv_iload hx hb d_p21m12_104 (lv_at hl 4 rfl) ?_
        refine pd_zeq (tgt := 118) hx hb d_p21m12_106 (by decide) (by decide) (fun _ => ?_) (fun q => absurd q (by decide))
        refine lv_iload hx hb d_p21m12_118 (lv_at hl 0 rfl) ?_
        have hwd := pg_w3 (f := f) (k := k) (x := x) (by omega) (by omega) (by omega)
        exact pd_nret (v := (k - 1 - 1 - 1)) X w ⟨by first | (rw [gr_dig_1 (by omega)]; rfl) | (rw [gr_dig_2 (by omega) (by omega)]; rfl) | (rw [gr_dig_3 (by omega)]; rfl), (k22).tr ((k28).tr (k36)), _, f37, hwd.1, hwd.2, sb_fitU (sb_fitU (sb_fitU (hfit) (pk_fb _)) (pk_fb _)) (pk_fb _)⟩ (by decide) (by decide) d_p21m12_120
      · -- not taken: 91
        have q41m : (-9 : Int32).toInt = -9 := by decide
        have q41n : ¬ (-9 : Int) ≤ -((x / 100 : Nat) : Int) := fun z => q41 ((pg_ge (by omega)).mpr (by rw [q41m]; exact z))
        exfalso
        omega
    · -- not taken: 28
      have q33m : (-100 : Int32).toInt = -100 := by decide
      have q33n : ¬ (-100 : Int) < -((x / 100 : Nat) : Int) := fun z => q33 ((pg_lt (by omega)).mpr (by rw [q33m]; exact z))
      exfalso
      omega
theorem tx_by3 {cs ds : List Nat} {f f2 : Nat → Int32} (hvf : ∀ j, j < cs.length → f j = sb_b (cs.getD j 0)) (g : ∀ j, j < cs.length → f2 j = f j) (hd : ∀ j, j < ds.length → f2 (cs.length + j) = sb_b (ds.getD j 0)) : ∀ j, j < (cs ++ ds).length → f2 j = sb_b ((cs ++ ds).getD j 0) := by
  intro j hj
  rw [List.length_append] at hj
  by_cases z : j < cs.length
  · rw [tx_app_get z, g j z, hvf j z]
  · rw [tx_app_get2 (by omega), ← hd _ (by omega)]
    exact congrArg f2 (by omega)
theorem d_p17m32_0 : decode prog_17_method_32_code 0 = .ok (.aload_n 0, 1) := by decide +kernel
theorem d_p17m32_1 : decode prog_17_method_32_code 1 = .ok (.getfield 79, 3) := by decide +kernel
theorem d_p17m32_4 : decode prog_17_method_32_code 4 = .ok (.istore_n 2, 1) := by decide +kernel
theorem d_p17m32_5 : decode prog_17_method_32_code 5 = .ok (.iload_n 2, 1) := by decide +kernel
theorem d_p17m32_6 : decode prog_17_method_32_code 6 = .ok (.iload_n 1, 1) := by decide +kernel
theorem d_p17m32_7 : decode prog_17_method_32_code 7 = .ok (.invokestatic 245, 3) := by decide +kernel
theorem d_p17m32_10 : decode prog_17_method_32_code 10 = .ok (.iadd, 1) := by decide +kernel
theorem d_p17m32_11 : decode prog_17_method_32_code 11 = .ok (.istore_n 3, 1) := by decide +kernel
theorem d_p17m32_12 : decode prog_17_method_32_code 12 = .ok (.aload_n 0, 1) := by decide +kernel
theorem d_p17m32_13 : decode prog_17_method_32_code 13 = .ok (.iload_n 3, 1) := by decide +kernel
theorem d_p17m32_14 : decode prog_17_method_32_code 14 = .ok (.invokevirtual 100, 3) := by decide +kernel
theorem d_p17m32_17 : decode prog_17_method_32_code 17 = .ok (.aload_n 0, 1) := by decide +kernel
theorem d_p17m32_18 : decode prog_17_method_32_code 18 = .ok (.invokevirtual 83, 3) := by decide +kernel
theorem d_p17m32_21 : decode prog_17_method_32_code 21 = .ok (.ifCond .eq 16, 3) := by decide +kernel
theorem d_p17m32_24 : decode prog_17_method_32_code 24 = .ok (.iload_n 1, 1) := by decide +kernel
theorem d_p17m32_25 : decode prog_17_method_32_code 25 = .ok (.iload_n 3, 1) := by decide +kernel
theorem d_p17m32_26 : decode prog_17_method_32_code 26 = .ok (.aload_n 0, 1) := by decide +kernel
theorem d_p17m32_27 : decode prog_17_method_32_code 27 = .ok (.getfield 15, 3) := by decide +kernel
theorem d_p17m32_30 : decode prog_17_method_32_code 30 = .ok (.invokestatic 248, 3) := by decide +kernel
theorem d_p17m32_33 : decode prog_17_method_32_code 33 = .ok (.pop, 1) := by decide +kernel
theorem d_p17m32_34 : decode prog_17_method_32_code 34 = .ok (.goto 14, 3) := by decide +kernel
theorem d_p17m32_37 : decode prog_17_method_32_code 37 = .ok (.iload_n 1, 1) := by decide +kernel
theorem d_p17m32_38 : decode prog_17_method_32_code 38 = .ok (.iload_n 2, 1) := by decide +kernel
theorem d_p17m32_39 : decode prog_17_method_32_code 39 = .ok (.iload_n 3, 1) := by decide +kernel
theorem d_p17m32_40 : decode prog_17_method_32_code 40 = .ok (.aload_n 0, 1) := by decide +kernel
theorem d_p17m32_41 : decode prog_17_method_32_code 41 = .ok (.getfield 15, 3) := by decide +kernel
theorem d_p17m32_44 : decode prog_17_method_32_code 44 = .ok (.invokestatic 251, 3) := by decide +kernel
theorem d_p17m32_47 : decode prog_17_method_32_code 47 = .ok (.pop, 1) := by decide +kernel
theorem d_p17m32_48 : decode prog_17_method_32_code 48 = .ok (.aload_n 0, 1) := by decide +kernel
theorem d_p17m32_49 : decode prog_17_method_32_code 49 = .ok (.iload_n 3, 1) := by decide +kernel
theorem d_p17m32_50 : decode prog_17_method_32_code 50 = .ok (.putfield 79, 3) := by decide +kernel
theorem d_p17m32_53 : decode prog_17_method_32_code 53 = .ok (.aload_n 0, 1) := by decide +kernel
theorem d_p17m32_54 : decode prog_17_method_32_code 54 = .ok (.areturn, 1) := by decide +kernel
abbrev y_ASB_appendI : MethodName := ⟨"java/lang/AbstractStringBuilder", "append", "(I)Ljava/lang/AbstractStringBuilder;"⟩
theorem ok_ASB_appendI : pd_ok y_ASB_appendI prog_17_method_32_code 4 (some (.object "java/lang/AbstractStringBuilder")) 1 := ⟨mT_1003, mT_2, by decide, by decide +kernel⟩
abbrev rm_ASB_appendI : Room := { frames := 4, cells := 1, slots := 200, locals := 91 }
set_option maxHeartbeats 4000000 in
set_option maxRecDepth 100000 in
theorem c_ASB_appendI (l : Launch) (G : pd_G) (h : pd_H) {b t1 t2 : Nat} {cs : List Nat} {x : Nat} (hSB : pd_SB G h b t1 t2 cs) (htt : t2 ≠ t1) (h01 : t1 ≠ 0) (h02 : t2 ≠ 0) (hx1 : x < 1000) (hln : cs.length + 3 ≤ 100) : pd_M l y_ASB_appendI prog_17_method_32_code 4 (some (.object "java/lang/AbstractStringBuilder")) rm_ASB_appendI G h [.ref b, .int (nI x)] Value.ref (fun r h1 => b = r ∧ pd_kx [t1, t2] h h1 ∧ pd_SB G h1 b t1 t2 (cs ++ gr_dig x)) := by
  refine pd_M.of (by decide) (Nat.le_of_ble_eq_true rfl) ?_
  intro p e s m below meth c X hmn w ls hl
  have hx := X.1
  have hb := X.2.1
  have hl : lv_has ls 4 [(0, .ref b), (1, .int (nI x))] := hl
  obtain ⟨v, cap, f, ml, hob, hov, hvf, hvc, hnc, hcap, hfit, hz_b, hz_v⟩ := id hSB
  have h01s := Ne.symm h01
  have h02s := Ne.symm h02
  have htts := Ne.symm htt
  refine lv_aload_n hx hb d_p17m32_0 rfl (lv_at hl 0 rfl) ?_
  refine pd_get X w hob rfl 3 (by decide) mT_62 rfl rfl d_p17m32_1 ?_
  refine lv_istore_n (lv' := [(2, .int (nI cs.length)), (0, .ref b), (1, .int (nI x))]) hx hb d_p17m32_4 rfl hl (by decide) rfl (fun ls hl => ?_)
  refine lv_iload_n hx hb d_p17m32_5 rfl (lv_at hl 0 rfl) ?_
  refine lv_iload_n hx hb d_p17m32_6 rfl (lv_at hl 2 rfl) ?_
  refine pd_cS (As := [.int (nI x)]) (rest := [.int (nI cs.length)]) X w (c_Integer_stringSize l G h (by omega)) ok_Integer_stringSize mT_1005 mT_1004 ⟨by decide, by decide⟩ rfl hl.1 rfl (Nat.le_of_ble_eq_true rfl) d_p17m32_7 ⟨by decide, by decide⟩ (fun r1 h2 H locs hp3 w => ?_)
  refine W.widen (k := 0) (n := 0) (by decide) (by decide) ?_
  obtain ⟨e4, rfl⟩ := hp3
  have hdl := gr_dig_len (x := x)
  refine pd_iadd hx hb d_p17m32_10 ?_
  refine lv_istore_n (lv' := [(3, .int (nI (cs.length + r1))), (2, .int (nI cs.length)), (0, .ref b), (1, .int (nI x))]) hx hb d_p17m32_11 rfl hl (by decide) rfl (fun ls hl => ?_)
  refine lv_aload_n hx hb d_p17m32_12 rfl (lv_at hl 2 rfl) ?_
  refine lv_iload_n hx hb d_p17m32_13 rfl (lv_at hl 0 rfl) ?_
  refine pd_cUv (a := b) (As := [.int (nI (cs.length + r1))]) (rest := []) X w hob rfl (c_AbstractStringBuilder_ensureCapacityInternal l G h (by assumption) (by assumption) (by assumption) (by assumption) (by assumption) (by assumption) (by assumption) (by assumption) (by omega)) ok_AbstractStringBuilder_ensureCapacityInternal rfl ⟨mT_424, (X.px (List.mem_of_getElem? (i := 0) rfl)), mT_1482⟩ mT_422 ⟨by decide, by decide⟩ rfl hl.1 rfl (Nat.le_of_ble_eq_true rfl) d_p17m32_14 ⟨by decide, by decide⟩ (fun h6 H locs hp7 w => ?_)
  refine W.widen (k := 1) (n := 200) (by decide) (by decide) ?_
  obtain ⟨k8, v9, cap10, f11, f12, f13, g14, c15, c16, c17, ft18, hz19⟩ := hp7
  refine lv_aload_n hx hb d_p17m32_17 rfl (lv_at hl 2 rfl) ?_
  refine pd_cU (a := b) (As := []) (rest := []) X w f12 rfl (c_AbstractStringBuilder_isLatin1 l G h6 (by assumption) (by assumption) (by assumption) (by assumption) (by assumption) (by assumption) (by assumption) (by assumption)) ok_AbstractStringBuilder_isLatin1 rfl ⟨mT_443, (X.2.2.2.2.2.1 _ mT_445), mT_444⟩ mT_442 ⟨by decide, by decide⟩ rfl hl.1 rfl (Nat.le_of_ble_eq_true rfl) d_p17m32_18 ⟨by decide, by decide⟩ (fun r20 h21 H locs hp22 w => ?_)
  refine W.widen (k := 1) (n := 200) (by decide) (by decide) ?_
  obtain ⟨e23, rfl⟩ := hp22
  subst e23
  refine W.eq (g2 := F0 m 21 ls [.int (nI 1)]) rfl ?_
  refine pd_zeq (tgt := 37) hx hb d_p17m32_21 (by decide) (by decide) (fun q => absurd q (by decide)) (fun _ => ?_)
  refine lv_iload_n hx hb d_p17m32_24 rfl (lv_at hl 3 rfl) ?_
  refine lv_iload_n hx hb d_p17m32_25 rfl (lv_at hl 0 rfl) ?_
  refine lv_aload_n hx hb d_p17m32_26 rfl (lv_at hl 2 rfl) ?_
  refine pd_get X w f12 rfl 0 (by decide) mT_58 rfl rfl d_p17m32_27 ?_
  refine pd_cS (As := [.int (nI x), .int (nI (cs.length + r1)), .ref v9]) (rest := []) X w (c_Integer_getChars l G h6 (by omega) (by assumption) (by assumption) (by assumption) (by omega) (by omega) (by omega) (by assumption)) ok_Integer_getChars mT_1008 mT_1007 ⟨by decide, by decide⟩ rfl hl.1 rfl (Nat.le_of_ble_eq_true rfl) d_p17m32_30 ⟨by decide, by decide⟩ (fun r25 h26 H locs hp27 w => ?_)
  refine W.widen (k := 1) (n := 200) (by decide) (by decide) ?_
  obtain ⟨e28, k29, f30, f31, g32, g33, ft34⟩ := hp27
  have f35 := k29 _ _ (pd_ne f12 f13 (by simp [htt, htts, h01, h01s, h02, h02s])) f12
  refine lv_pop hx hb d_p17m32_33 rfl ?_
  refine lv_goto (tgt := 48) hx hb d_p17m32_34 (by decide) ?_
  refine lv_aload_n hx hb d_p17m32_48 rfl (lv_at hl 2 rfl) ?_
  refine lv_iload_n hx hb d_p17m32_49 rfl (lv_at hl 0 rfl) ?_
  refine pd_put (ty := .int) X w f35 hz_b rfl 3 (by decide) mT_62 rfl rfl (by decide +kernel) rfl rfl (Nat.le_of_ble_eq_true rfl) d_p17m32_50 (fun H locs w => ?_)
  have w : pd_w G s H locs (pd_up h26 b (t1, .inr (11, [.ref v9, .int (nI 0), .int (pd_b ml), .int (nI (cs.length + r1))]))) := w
  obtain ⟨h36, u39⟩ : ∃ z, z = pd_up h26 b (t1, .inr (11, [.ref v9, .int (nI 0), .int (pd_b ml), .int (nI (cs.length + r1))])) := ⟨_, rfl⟩
  rw [← u39] at w
  have k37 : pd_kq b h26 h36 := by rw [u39]; exact pd_up_kq
  have f38 : h36 b = some (t1, .inr (11, [.ref v9, .int (nI 0), .int (pd_b ml), .int (nI (cs.length + r1))])) := by rw [u39]; exact pd_up_s _ _ _
  have f40 := k37 _ _ (pd_ne f31 f35 (by simp [htt, htts, h01, h01s, h02, h02s])) f31
  refine lv_aload_n hx hb d_p17m32_53 rfl (lv_at hl 2 rfl) ?_
  exact pd_aret (v := b) X (Or.inl ⟨_, rfl⟩) w ⟨rfl, pd_kx.tr (pd_kx.tr (pd_kx.mono (us := [t1, t2]) (k8) (by simp)) (pd_kx.mono (us := [t1, t2]) (pd_kq.kx (k29) f13) (by simp))) (pd_kx.mono (us := [t1, t2]) (pd_kq.kx (k37) f35) (by simp)), _, _, _, ml, (by rw [List.length_append, ← e4]; exact f38), f40, tx_by3 hvf (fun j hj => (g33 j (by omega)).trans (g14 j hj)) (fun j hj => by have z := g32 j hj; rwa [e4, Nat.add_sub_cancel] at z), tx_app_lt hvc (gr_dig_lt hx1), (by rw [List.length_append, ← e4]; exact c15), c17, ft34, hz_b, hz19⟩ (by decide) (by decide) d_p17m32_54
theorem d_p25m15_0 : decode prog_25_method_15_code 0 = .ok (.aload_n 0, 1) := by decide +kernel
theorem d_p25m15_1 : decode prog_25_method_15_code 1 = .ok (.iload_n 1, 1) := by decide +kernel
theorem d_p25m15_2 : decode prog_25_method_15_code 2 = .ok (.invokespecial 53, 3) := by decide +kernel
theorem d_p25m15_5 : decode prog_25_method_15_code 5 = .ok (.pop, 1) := by decide +kernel
theorem d_p25m15_6 : decode prog_25_method_15_code 6 = .ok (.aload_n 0, 1) := by decide +kernel
theorem d_p25m15_7 : decode prog_25_method_15_code 7 = .ok (.areturn, 1) := by decide +kernel
abbrev y_SB_appendI : MethodName := ⟨"java/lang/StringBuilder", "append", "(I)Ljava/lang/StringBuilder;"⟩
theorem ok_SB_appendI : pd_ok y_SB_appendI prog_25_method_15_code 2 (some (.object "java/lang/StringBuilder")) 1 := ⟨mT_1000, mT_3, by decide, by decide +kernel⟩
abbrev rm_SB_appendI : Room := { frames := 5, cells := 1, slots := 200, locals := 114 }
set_option maxHeartbeats 4000000 in
set_option maxRecDepth 100000 in
theorem c_SB_appendI (l : Launch) (G : pd_G) (h : pd_H) {b t1 t2 : Nat} {cs : List Nat} {x : Nat} (hSB : pd_SB G h b t1 t2 cs) (htt : t2 ≠ t1) (h01 : t1 ≠ 0) (h02 : t2 ≠ 0) (hx1 : x < 1000) (hln : cs.length + 3 ≤ 100) : pd_M l y_SB_appendI prog_25_method_15_code 2 (some (.object "java/lang/StringBuilder")) rm_SB_appendI G h [.ref b, .int (nI x)] Value.ref (fun r h1 => b = r ∧ pd_kx [t1, t2] h h1 ∧ pd_SB G h1 b t1 t2 (cs ++ gr_dig x)) := by
  refine pd_M.of (by decide) (Nat.le_of_ble_eq_true rfl) ?_
  intro p e s m below meth c X hmn w ls hl
  have hx := X.1
  have hb := X.2.1
  have hl : lv_has ls 2 [(0, .ref b), (1, .int (nI x))] := hl
  obtain ⟨v, cap, f, ml, hob, hov, hvf, hvc, hnc, hcap, hfit, hz_b, hz_v⟩ := id hSB
  have h01s := Ne.symm h01
  have h02s := Ne.symm h02
  have htts := Ne.symm htt
  refine lv_aload_n hx hb d_p25m15_0 rfl (lv_at hl 0 rfl) ?_
  refine lv_iload_n hx hb d_p25m15_1 rfl (lv_at hl 1 rfl) ?_
  refine pd_cW (a := b) (As := [.int (nI x)]) (rest := []) X w hob rfl (c_ASB_appendI l G h (by assumption) (by assumption) (by assumption) (by assumption) (by omega) (by omega)) ok_ASB_appendI (by decide) ⟨mT_1002, mT_71, mT_1487⟩ mT_1001 ⟨by decide, by decide⟩ rfl hl.1 rfl (Nat.le_of_ble_eq_true rfl) d_p25m15_2 ⟨by decide, by decide⟩ (fun r1 h2 H locs hp3 w => ?_)
  refine W.widen (k := 1) (n := 200) (by decide) (by decide) ?_
  obtain ⟨e4, k5, f6⟩ := hp3
  subst e4
  refine lv_pop hx hb d_p25m15_5 rfl ?_
  refine lv_aload_n hx hb d_p25m15_6 rfl (lv_at hl 0 rfl) ?_
  exact pd_aret (v := b) X (Or.inl ⟨_, rfl⟩) w ⟨rfl, k5, f6⟩ (by decide) (by decide) d_p25m15_7
theorem d_p17m14_0 : decode prog_17_method_14_code 0 = .ok (.aload_n 0, 1) := by decide +kernel
theorem d_p17m14_1 : decode prog_17_method_14_code 1 = .ok (.getfield 22, 3) := by decide +kernel
theorem d_p17m14_4 : decode prog_17_method_14_code 4 = .ok (.istore_n 2, 1) := by decide +kernel
theorem d_p17m14_5 : decode prog_17_method_14_code 5 = .ok (.aload_n 0, 1) := by decide +kernel
theorem d_p17m14_6 : decode prog_17_method_14_code 6 = .ok (.getfield 15, 3) := by decide +kernel
theorem d_p17m14_9 : decode prog_17_method_14_code 9 = .ok (.astore_n 3, 1) := by decide +kernel
theorem d_p17m14_10 : decode prog_17_method_14_code 10 = .ok (.aload_n 0, 1) := by decide +kernel
theorem d_p17m14_11 : decode prog_17_method_14_code 11 = .ok (.getfield 79, 3) := by decide +kernel
theorem d_p17m14_14 : decode prog_17_method_14_code 14 = .ok (.aload_n 3, 1) := by decide +kernel
theorem d_p17m14_15 : decode prog_17_method_14_code 15 = .ok (.arraylength, 1) := by decide +kernel
theorem d_p17m14_16 : decode prog_17_method_14_code 16 = .ok (.iload_n 2, 1) := by decide +kernel
theorem d_p17m14_17 : decode prog_17_method_14_code 17 = .ok (.ishr, 1) := by decide +kernel
theorem d_p17m14_18 : decode prog_17_method_14_code 18 = .ok (.invokestatic 138, 3) := by decide +kernel
theorem d_p17m14_21 : decode prog_17_method_14_code 21 = .ok (.istore 4, 2) := by decide +kernel
theorem d_p17m14_23 : decode prog_17_method_14_code 23 = .ok (.iload_n 1, 1) := by decide +kernel
theorem d_p17m14_24 : decode prog_17_method_14_code 24 = .ok (.iload 4, 2) := by decide +kernel
theorem d_p17m14_26 : decode prog_17_method_14_code 26 = .ok (.invokestatic 144, 3) := by decide +kernel
theorem d_p17m14_29 : decode prog_17_method_14_code 29 = .ok (.iload_n 2, 1) := by decide +kernel
theorem d_p17m14_30 : decode prog_17_method_14_code 30 = .ok (.ifCond .ne 12, 3) := by decide +kernel
theorem d_p17m14_33 : decode prog_17_method_14_code 33 = .ok (.aload_n 3, 1) := by decide +kernel
theorem d_p17m14_34 : decode prog_17_method_14_code 34 = .ok (.iload_n 1, 1) := by decide +kernel
theorem d_p17m14_35 : decode prog_17_method_14_code 35 = .ok (.baload, 1) := by decide +kernel
theorem d_p17m14_36 : decode prog_17_method_14_code 36 = .ok (.sipush 255, 3) := by decide +kernel
theorem d_p17m14_39 : decode prog_17_method_14_code 39 = .ok (.iand, 1) := by decide +kernel
theorem d_p17m14_40 : decode prog_17_method_14_code 40 = .ok (.i2c, 1) := by decide +kernel
theorem d_p17m14_41 : decode prog_17_method_14_code 41 = .ok (.ireturn, 1) := by decide +kernel
theorem d_p17m14_42 : decode prog_17_method_14_code 42 = .ok (.aload_n 3, 1) := by decide +kernel
theorem d_p17m14_43 : decode prog_17_method_14_code 43 = .ok (.iload_n 1, 1) := by decide +kernel
theorem d_p17m14_44 : decode prog_17_method_14_code 44 = .ok (.invokestatic 148, 3) := by decide +kernel
theorem d_p17m14_47 : decode prog_17_method_14_code 47 = .ok (.ireturn, 1) := by decide +kernel
abbrev y_ASB_charAt : MethodName := ⟨"java/lang/AbstractStringBuilder", "charAt", "(I)C"⟩
theorem ok_ASB_charAt : pd_ok y_ASB_charAt prog_17_method_14_code 5 (some .char) 1 := ⟨mT_1070, mT_2, by decide, by decide +kernel⟩
abbrev rm_ASB_charAt : Room := { frames := 2, cells := 0, slots := 0, locals := 43 }
set_option maxHeartbeats 4000000 in
set_option maxRecDepth 100000 in
theorem c_ASB_charAt (l : Launch) (G : pd_G) (h : pd_H) {b t1 t2 : Nat} {cs : List Nat} {i : Nat} (hSB : pd_SB G h b t1 t2 cs) (htt : t2 ≠ t1) (h01 : t1 ≠ 0) (h02 : t2 ≠ 0) (hi : i < cs.length) : pd_M l y_ASB_charAt prog_17_method_14_code 5 (some .char) rm_ASB_charAt G h [.ref b, .int (nI i)] pd_vn (fun r h1 => r = cs.getD i 0 ∧ r < 256 ∧ h = h1) := by
  refine pd_M.of (by decide) (Nat.le_of_ble_eq_true rfl) ?_
  intro p e s m below meth c X hmn w ls hl
  have hx := X.1
  have hb := X.2.1
  have hl : lv_has ls 5 [(0, .ref b), (1, .int (nI i))] := hl
  obtain ⟨v, cap, f, ml, hob, hov, hvf, hvc, hnc, hcap, hfit, hz_b, hz_v⟩ := id hSB
  have h01s := Ne.symm h01
  have h02s := Ne.symm h02
  have htts := Ne.symm htt
  have hlt := tx_lt hvc i
  refine lv_aload_n hx hb d_p17m14_0 rfl (lv_at hl 0 rfl) ?_
  refine pd_get X w hob rfl 1 (by decide) mT_59 rfl rfl d_p17m14_1 ?_
  refine lv_istore_n (lv' := [(2, .int (nI 0)), (0, .ref b), (1, .int (nI i))]) hx hb d_p17m14_4 rfl hl (by decide) rfl (fun ls hl => ?_)
  refine lv_aload_n hx hb d_p17m14_5 rfl (lv_at hl 1 rfl) ?_
  refine pd_get X w hob rfl 0 (by decide) mT_58 rfl rfl d_p17m14_6 ?_
  refine lv_astore_n (lv' := [(3, .ref v), (2, .int (nI 0)), (0, .ref b), (1, .int (nI i))]) hx hb d_p17m14_9 rfl hl (by decide) rfl (fun ls hl => ?_)
  refine lv_aload_n hx hb d_p17m14_10 rfl (lv_at hl 2 rfl) ?_
  refine pd_get X w hob rfl 3 (by decide) mT_62 rfl rfl d_p17m14_11 ?_
  refine lv_aload_n hx hb d_p17m14_14 rfl (lv_at hl 0 rfl) ?_
  refine pd_alen X w hov d_p17m14_15 ?_
  refine lv_iload_n hx hb d_p17m14_16 rfl (lv_at hl 1 rfl) ?_
  refine pd_ishr0 hx hb d_p17m14_17 ?_
  refine pd_mmin X hl.1 (by omega) (by omega) mT_1071 mT_245 mT_15 mT_246 (by decide) (Nat.le_of_ble_eq_true rfl) (by decide) (by decide) d_p17m14_18 ?_
  refine pd_top (v' := .int (nI cs.length)) (by rw [Nat.min_eq_left hnc]) ?_
  refine lv_istore (lv' := [(4, .int (nI cs.length)), (3, .ref v), (2, .int (nI 0)), (0, .ref b), (1, .int (nI i))]) hx hb d_p17m14_21 hl (by decide) rfl (fun ls hl => ?_)
  refine lv_iload_n hx hb d_p17m14_23 rfl (lv_at hl 4 rfl) ?_
  refine lv_iload hx hb d_p17m14_24 (lv_at hl 0 rfl) ?_
  refine pd_cSv (As := [.int (nI i), .int (nI cs.length)]) (rest := []) X w (c_String_checkIndex l G h (by omega) (by omega)) ok_String_checkIndex mT_113 mT_1072 ⟨by decide, by decide⟩ rfl hl.1 rfl (Nat.le_of_ble_eq_true rfl) d_p17m14_26 ⟨by decide, by decide⟩ (fun h2 H locs hp3 w => ?_)
  refine W.widen (k := 0) (n := 0) (by decide) (by decide) ?_
  subst hp3
  refine lv_iload_n hx hb d_p17m14_29 rfl (lv_at hl 2 rfl) ?_
  refine pd_zne (tgt := 42) hx hb d_p17m14_30 (by decide) (by decide) (fun q => absurd q (by decide)) (fun _ => ?_)
  refine lv_aload_n hx hb d_p17m14_33 rfl (lv_at hl 1 rfl) ?_
  refine lv_iload_n hx hb d_p17m14_34 rfl (lv_at hl 4 rfl) ?_
  refine pd_bald X w hov (by omega) (by omega) d_p17m14_35 ?_
  refine lv_sipush (v := nI 255) hx hb d_p17m14_36 (by decide) ?_
  refine lv_iand hx hb d_p17m14_39 ?_
  refine pd_top (v' := .int (nI (cs.getD i 0))) (by rw [hvf i hi]; exact congrArg Value.int (sb_byte _ (tx_lt hvc i)).1) ?_
  refine pd_i2c hx hb d_p17m14_40 (by omega) ?_
  exact pd_ncret (v := (cs.getD i 0)) X (pk_charN (by omega)).1 w ⟨rfl, hlt, rfl⟩ (by decide) (by decide) d_p17m14_41
theorem d_p25m88_0 : decode prog_25_method_88_code 0 = .ok (.aload_n 0, 1) := by decide +kernel
theorem d_p25m88_1 : decode prog_25_method_88_code 1 = .ok (.iload_n 1, 1) := by decide +kernel
theorem d_p25m88_2 : decode prog_25_method_88_code 2 = .ok (.invokespecial 329, 3) := by decide +kernel
theorem d_p25m88_5 : decode prog_25_method_88_code 5 = .ok (.ireturn, 1) := by decide +kernel
abbrev y_SB_charAt : MethodName := ⟨"java/lang/StringBuilder", "charAt", "(I)C"⟩
theorem ok_SB_charAt : pd_ok y_SB_charAt prog_25_method_88_code 2 (some .char) 1 := ⟨mT_1067, mT_3, by decide, by decide +kernel⟩
abbrev rm_SB_charAt : Room := { frames := 3, cells := 0, slots := 0, locals := 67 }
set_option maxHeartbeats 4000000 in
set_option maxRecDepth 100000 in
theorem c_SB_charAt (l : Launch) (G : pd_G) (h : pd_H) {b t1 t2 : Nat} {cs : List Nat} {i : Nat} (hSB : pd_SB G h b t1 t2 cs) (htt : t2 ≠ t1) (h01 : t1 ≠ 0) (h02 : t2 ≠ 0) (hi : i < cs.length) : pd_M l y_SB_charAt prog_25_method_88_code 2 (some .char) rm_SB_charAt G h [.ref b, .int (nI i)] pd_vn (fun r h1 => r = cs.getD i 0 ∧ r < 256 ∧ h = h1) := by
  refine pd_M.of (by decide) (Nat.le_of_ble_eq_true rfl) ?_
  intro p e s m below meth c X hmn w ls hl
  have hx := X.1
  have hb := X.2.1
  have hl : lv_has ls 2 [(0, .ref b), (1, .int (nI i))] := hl
  obtain ⟨v, cap, f, ml, hob, hov, hvf, hvc, hnc, hcap, hfit, hz_b, hz_v⟩ := id hSB
  have h01s := Ne.symm h01
  have h02s := Ne.symm h02
  have htts := Ne.symm htt
  refine lv_aload_n hx hb d_p25m88_0 rfl (lv_at hl 0 rfl) ?_
  refine lv_iload_n hx hb d_p25m88_1 rfl (lv_at hl 1 rfl) ?_
  refine pd_cW (a := b) (As := [.int (nI i)]) (rest := []) X w hob rfl (c_ASB_charAt l G h (by assumption) (by assumption) (by assumption) (by assumption) (by omega)) ok_ASB_charAt (by decide) ⟨mT_1069, mT_71, mT_1492⟩ mT_1068 ⟨by decide, by decide⟩ rfl hl.1 rfl (Nat.le_of_ble_eq_true rfl) d_p25m88_2 ⟨by decide, by decide⟩ (fun r1 h2 H locs hp3 w => ?_)
  refine W.widen (k := 0) (n := 0) (by decide) (by decide) ?_
  obtain ⟨e4, lt5, rfl⟩ := hp3
  exact pd_ncret (v := r1) X (pk_charN (by omega)).1 w ⟨by assumption, by omega, rfl⟩ (by decide) (by decide) d_p25m88_5
theorem d_p17m2_0 : decode prog_17_method_2_code 0 = .ok (.aload_n 0, 1) := by decide +kernel
theorem d_p17m2_1 : decode prog_17_method_2_code 1 = .ok (.invokespecial 3, 3) := by decide +kernel
theorem d_p17m2_4 : decode prog_17_method_2_code 4 = .ok (.getstatic 18, 3) := by decide +kernel
theorem d_p17m2_7 : decode prog_17_method_2_code 7 = .ok (.ifCond .eq 18, 3) := by decide +kernel
theorem d_p17m2_10 : decode prog_17_method_2_code 10 = .ok (.aload_n 0, 1) := by decide +kernel
theorem d_p17m2_11 : decode prog_17_method_2_code 11 = .ok (.iload_n 1, 1) := by decide +kernel
theorem d_p17m2_12 : decode prog_17_method_2_code 12 = .ok (.newarray .byte, 2) := by decide +kernel
theorem d_p17m2_14 : decode prog_17_method_2_code 14 = .ok (.putfield 15, 3) := by decide +kernel
theorem d_p17m2_17 : decode prog_17_method_2_code 17 = .ok (.aload_n 0, 1) := by decide +kernel
theorem d_p17m2_18 : decode prog_17_method_2_code 18 = .ok (.iconst 0, 1) := by decide +kernel
theorem d_p17m2_19 : decode prog_17_method_2_code 19 = .ok (.putfield 22, 3) := by decide +kernel
theorem d_p17m2_22 : decode prog_17_method_2_code 22 = .ok (.goto 16, 3) := by decide +kernel
theorem d_p17m2_25 : decode prog_17_method_2_code 25 = .ok (.aload_n 0, 1) := by decide +kernel
theorem d_p17m2_26 : decode prog_17_method_2_code 26 = .ok (.iload_n 1, 1) := by decide +kernel
theorem d_p17m2_27 : decode prog_17_method_2_code 27 = .ok (.invokestatic 26, 3) := by decide +kernel
theorem d_p17m2_30 : decode prog_17_method_2_code 30 = .ok (.putfield 15, 3) := by decide +kernel
theorem d_p17m2_33 : decode prog_17_method_2_code 33 = .ok (.aload_n 0, 1) := by decide +kernel
theorem d_p17m2_34 : decode prog_17_method_2_code 34 = .ok (.iconst 1, 1) := by decide +kernel
theorem d_p17m2_35 : decode prog_17_method_2_code 35 = .ok (.putfield 22, 3) := by decide +kernel
theorem d_p17m2_38 : decode prog_17_method_2_code 38 = .ok (.return_, 1) := by decide +kernel
abbrev y_ASB_init : MethodName := ⟨"java/lang/AbstractStringBuilder", "<init>", "(I)V"⟩
theorem ok_ASB_init : pd_ok y_ASB_init prog_17_method_2_code 2 none 1 := ⟨mT_47, mT_2, by decide, by decide +kernel⟩
abbrev rm_ASB_init : Room := { frames := 1, cells := 1, slots := 16, locals := 20 }
set_option maxHeartbeats 4000000 in
set_option maxRecDepth 100000 in
theorem c_ASB_init (l : Launch) (G : pd_G) (h : pd_H) {b t1 : Nat} (t2 : Nat) (hb0 : h b = some (t1, .inr (11, [.null, .int (nI 0), .int (nI 0), .int (nI 0)]))) (hz_b : G.2.1 ≤ b) : pd_Mv l y_ASB_init prog_17_method_2_code 2 rm_ASB_init G h [.ref b, .int (nI 16)] (fun h1 => pd_kq b h h1 ∧ pd_SB G h1 b t1 t2 []) := by
  refine pd_Mv.of (by decide) (Nat.le_of_ble_eq_true rfl) ?_
  intro p e s m below meth c X hmn w ls hl
  have hx := X.1
  have hb := X.2.1
  have hl : lv_has ls 2 [(0, .ref b), (1, .int (nI 16))] := hl
  refine lv_aload_n hx hb d_p17m2_0 rfl (lv_at hl 0 rfl) ?_
  refine W.objInit hx hb X.2.2.2.2.1 (X.2.2.2.2.2.1 _ mT_48) (X.2.2.2.2.2.1 _ mT_38) (X.2.2.2.2.2.1 _ mT_39) rfl (by rw [X.2.2.2.1]; exact hl.1) rfl d_p17m2_1 (by decide) (Nat.le_of_ble_eq_true rfl) ?_
  refine W.eq (g2 := F0 m 4 ls []) rfl ?_
  refine pd_gets X w (List.mem_of_getElem? (i := 0) rfl) mT_49 d_p17m2_4 ?_
  refine pd_zeq (tgt := 25) hx hb d_p17m2_7 (by decide) (by decide) (fun q => absurd q (by decide)) (fun _ => ?_)
  refine lv_aload_n hx hb d_p17m2_10 rfl (lv_at hl 0 rfl) ?_
  refine lv_iload_n hx hb d_p17m2_11 rfl (lv_at hl 1 rfl) ?_
  refine pd_newa (ty := .byte) (x := (16, .inl (fun _ => 0))) t2 X w rfl mT_72 rfl rfl (by omega) (by decide) (fun _ h9 => h9) (by decide) (Nat.le_trans (Nat.add_le_add_left (by omega : 16 ≤ 16) _) (by decide)) d_p17m2_12 (fun q2 H hq3 hz4 w => ?_)
  refine W.widen (k := 1) (n := 16) (by decide) (by omega) ?_
  obtain ⟨h5, u8⟩ : ∃ z, z = pd_up h q2 (t2, .inl (.byte, 16, .inl (fun _ => 0))) := ⟨_, rfl⟩
  rw [← u8] at w
  have k6 : pd_kx [] h h5 := by rw [u8]; exact pd_new_kx hq3
  have f7 : h5 q2 = some (t2, .inl (.byte, 16, .inl (fun _ => 0))) := by rw [u8]; exact pd_up_s _ _ _
  have f9 := k6 _ _ hb0 List.not_mem_nil
  refine pd_put (ty := (.array .byte)) X w f9 hz_b rfl 0 (by decide) mT_58 rfl rfl (by decide +kernel) rfl rfl (Nat.le_of_ble_eq_true rfl) d_p17m2_14 (fun H locs w => ?_)
  have w : pd_w G s H locs (pd_up h5 b (t1, .inr (11, [.ref q2, .int (nI 0), .int (nI 0), .int (nI 0)]))) := w
  obtain ⟨h10, u13⟩ : ∃ z, z = pd_up h5 b (t1, .inr (11, [.ref q2, .int (nI 0), .int (nI 0), .int (nI 0)])) := ⟨_, rfl⟩
  rw [← u13] at w
  have k11 : pd_kq b h5 h10 := by rw [u13]; exact pd_up_kq
  have f12 : h10 b = some (t1, .inr (11, [.ref q2, .int (nI 0), .int (nI 0), .int (nI 0)])) := by rw [u13]; exact pd_up_s _ _ _
  have f14 := k11 _ _ (pd_ne f7 f9 (by simp)) f7
  refine lv_aload_n hx hb d_p17m2_17 rfl (lv_at hl 0 rfl) ?_
  refine lv_iconst (v := nI 0) hx hb d_p17m2_18 (by decide) ?_
  refine pd_put (ty := .byte) X w f12 hz_b rfl 1 (by decide) mT_59 rfl rfl (by decide +kernel) (by decide) (by decide) (Nat.le_of_ble_eq_true rfl) d_p17m2_19 (fun H locs w => ?_)
  have w : pd_w G s H locs (pd_up h10 b (t1, .inr (11, [.ref q2, .int (nI 0), .int (nI 0), .int (nI 0)]))) := w
  obtain ⟨h15, u18⟩ : ∃ z, z = pd_up h10 b (t1, .inr (11, [.ref q2, .int (nI 0), .int (nI 0), .int (nI 0)])) := ⟨_, rfl⟩
  rw [← u18] at w
  have k16 : pd_kq b h10 h15 := by rw [u18]; exact pd_up_kq
  have f17 : h15 b = some (t1, .inr (11, [.ref q2, .int (nI 0), .int (nI 0), .int (nI 0)])) := by rw [u18]; exact pd_up_s _ _ _
  have f19 := k16 _ _ (pd_ne f14 f12 (by simp)) f14
  refine lv_goto (tgt := 38) hx hb d_p17m2_22 (by decide) ?_
  exact pd_vret X w ⟨(((k6).kq).tr k11).tr k16, _, _, _, false, f17, f19, (fun j hj => absurd hj (Nat.not_lt_zero j)), (fun x hx => absurd hx List.not_mem_nil), Nat.zero_le _, by decide, sb_fit0, hz_b, hz4⟩ (by decide) (by decide) d_p17m2_38
theorem d_p25m1_0 : decode prog_25_method_1_code 0 = .ok (.aload_n 0, 1) := by decide +kernel
theorem d_p25m1_1 : decode prog_25_method_1_code 1 = .ok (.bipush 16, 2) := by decide +kernel
theorem d_p25m1_3 : decode prog_25_method_1_code 3 = .ok (.invokespecial 1, 3) := by decide +kernel
theorem d_p25m1_6 : decode prog_25_method_1_code 6 = .ok (.return_, 1) := by decide +kernel
abbrev y_SB_init : MethodName := ⟨"java/lang/StringBuilder", "<init>", "()V"⟩
theorem ok_SB_init : pd_ok y_SB_init prog_25_method_1_code 1 none 0 := ⟨mT_44, mT_3, by decide, by decide +kernel⟩
abbrev rm_SB_init : Room := { frames := 2, cells := 1, slots := 16, locals := 41 }
set_option maxHeartbeats 4000000 in
set_option maxRecDepth 100000 in
theorem c_SB_init (l : Launch) (G : pd_G) (h : pd_H) {b t1 : Nat} (t2 : Nat) (hb0 : h b = some (t1, .inr (11, [.null, .int (nI 0), .int (nI 0), .int (nI 0)]))) (hz_b : G.2.1 ≤ b) : pd_Mv l y_SB_init prog_25_method_1_code 1 rm_SB_init G h [.ref b] (fun h1 => pd_kq b h h1 ∧ pd_SB G h1 b t1 t2 []) := by
  refine pd_Mv.of (by decide) (Nat.le_of_ble_eq_true rfl) ?_
  intro p e s m below meth c X hmn w ls hl
  have hx := X.1
  have hb := X.2.1
  have hl : lv_has ls 1 [(0, .ref b)] := hl
  refine lv_aload_n hx hb d_p25m1_0 rfl (lv_at hl 0 rfl) ?_
  refine lv_bipush (v := nI 16) hx hb d_p25m1_1 (by decide) ?_
  refine pd_cI (a := b) (As := [.int (nI 16)]) (rest := []) X w (c_ASB_init l G h t2 (by assumption) (by assumption)) ok_ASB_init rfl mT_46 mT_45 ⟨by decide, by decide⟩ rfl hl.1 rfl (Nat.le_of_ble_eq_true rfl) d_p25m1_3 ⟨by decide, by decide⟩ (fun h2 H locs hp3 w => ?_)
  refine W.widen (k := 1) (n := 16) (by decide) (by decide) ?_
  obtain ⟨k4, f5⟩ := hp3
  exact pd_vret X w ⟨k4, f5⟩ (by decide) (by decide) d_p25m1_6
