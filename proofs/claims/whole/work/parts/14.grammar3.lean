theorem pd_m1 {n : Nat} (h : n < 2 ^ 31) : ¬ (-1 : Int32) = nI n := fun q => nI_pos h (by rw [← q]; decide)
def gr_br : List Nat → Nat → Nat
  | [], i => i
  | x :: t, i => if x = 91 then gr_br t (i + 1) else i
theorem gr_br_end {cs : List Nat} {i : Nat} (hi : cs.length ≤ i) : gr_br (cs.drop i) i = i := by
  rw [List.drop_eq_nil_of_le hi]
  rfl
theorem gr_br_n {cs : List Nat} {i : Nat} (hi : i < cs.length) (hx : ¬ cs.getD i 0 = 91) : gr_br (cs.drop i) i = i := by
  rw [tx_drop hi, gr_br, if_neg hx]
theorem gr_br_y {cs : List Nat} {i : Nat} (hi : i < cs.length) (hx : cs.getD i 0 = 91) : gr_br (cs.drop i) i = gr_br (cs.drop (i + 1)) (i + 1) := by
  rw [tx_drop hi, gr_br, if_pos hx]
/-- the place behind the TYPE that begins at x -/
def gr_te (cs : List Nat) (x : Nat) : Option Nat :=
  if cs.length ≤ gr_br (cs.drop x) x then none else if cs.getD (gr_br (cs.drop x) x) 0 = 76 then gr_nte cs (gr_br (cs.drop x) x + 1)
  else match tx_ix [73, 74, 70, 68, 90, 66, 67, 83] (cs.getD (gr_br (cs.drop x) x) 0) with | none => none | some _ => some (gr_br (cs.drop x) x + 1)
theorem gr_te_0 {cs : List Nat} {x i : Nat} (hs : gr_br (cs.drop x) x = i) (hi : cs.length ≤ i) : gr_te cs x = none := by
  unfold gr_te
  rw [hs, if_pos hi]
theorem gr_te_L {cs : List Nat} {x i : Nat} (hs : gr_br (cs.drop x) x = i) (hi : i < cs.length) (hx : cs.getD i 0 = 76) : gr_te cs x = gr_nte cs (i + 1) := by
  unfold gr_te
  rw [hs, if_neg (by omega), if_pos hx]
theorem gr_te_n {cs : List Nat} {x i : Nat} (hs : gr_br (cs.drop x) x = i) (hi : i < cs.length) (hx : ¬ cs.getD i 0 = 76) (hq : tx_ix [73, 74, 70, 68, 90, 66, 67, 83] (cs.getD i 0) = none) : gr_te cs x = none := by
  unfold gr_te
  rw [hs, if_neg (by omega), if_neg hx, hq]
theorem gr_te_s {cs : List Nat} {x i j : Nat} (hs : gr_br (cs.drop x) x = i) (hi : i < cs.length) (hx : ¬ cs.getD i 0 = 76) (hq : tx_ix [73, 74, 70, 68, 90, 66, 67, 83] (cs.getD i 0) = some j) : gr_te cs x = some (i + 1) := by
  unfold gr_te
  rw [hs, if_neg (by omega), if_neg hx, hq]
theorem gr_semi_lt : ∀ (t : List Nat) (i j : Nat), gr_semi t i = some j → j < i + t.length
  | [], i, j, h => by cases h
  | x :: t, i, j, h => by
    unfold gr_semi at h
    split at h
    · cases h
      simp
    · have := gr_semi_lt t (i + 1) j h
      simp
      omega
theorem gr_nte_le {cs : List Nat} {x j : Nat} (h : gr_nte cs x = some j) : j ≤ cs.length := by
  unfold gr_nte at h
  split at h
  · cases h
  · rename_i i hi
    split at h
    · cases h
      have h1 := gr_semi_lt _ _ _ hi
      rw [List.length_drop] at h1
      by_cases hx : x ≤ cs.length
      · omega
      · have h0 : cs.drop x = [] := List.drop_eq_nil_of_le (by omega)
        rw [h0] at hi
        cases hi
    · cases h
theorem gr_te_le {cs : List Nat} {x j : Nat} (h : gr_te cs x = some j) : j ≤ cs.length := by
  unfold gr_te at h
  split at h
  · cases h
  · split at h
    · exact gr_nte_le h
    · split at h
      · cases h
      · cases h
        omega
def gr_type (cs : List Nat) : Bool := decide (gr_te cs 0 = some cs.length)
theorem d_p6m15_0 : decode prog_6_method_15_code 0 = .ok (.iload_n 1, 1) := by decide +kernel
theorem d_p6m15_1 : decode prog_6_method_15_code 1 = .ok (.istore_n 2, 1) := by decide +kernel
theorem d_p6m15_2 : decode prog_6_method_15_code 2 = .ok (.iload_n 2, 1) := by decide +kernel
theorem d_p6m15_3 : decode prog_6_method_15_code 3 = .ok (.aload_n 0, 1) := by decide +kernel
theorem d_p6m15_4 : decode prog_6_method_15_code 4 = .ok (.invokevirtual 69, 3) := by decide +kernel
theorem d_p6m15_7 : decode prog_6_method_15_code 7 = .ok (.if_icmp .ge 19, 3) := by decide +kernel
theorem d_p6m15_10 : decode prog_6_method_15_code 10 = .ok (.aload_n 0, 1) := by decide +kernel
theorem d_p6m15_11 : decode prog_6_method_15_code 11 = .ok (.iload_n 2, 1) := by decide +kernel
theorem d_p6m15_12 : decode prog_6_method_15_code 12 = .ok (.invokevirtual 72, 3) := by decide +kernel
theorem d_p6m15_15 : decode prog_6_method_15_code 15 = .ok (.bipush 91, 2) := by decide +kernel
theorem d_p6m15_17 : decode prog_6_method_15_code 17 = .ok (.if_icmp .ne 9, 3) := by decide +kernel
theorem d_p6m15_20 : decode prog_6_method_15_code 20 = .ok (.iinc 2 1, 3) := by decide +kernel
theorem d_p6m15_23 : decode prog_6_method_15_code 23 = .ok (.goto (-21), 3) := by decide +kernel
theorem d_p6m15_26 : decode prog_6_method_15_code 26 = .ok (.iload_n 2, 1) := by decide +kernel
theorem d_p6m15_27 : decode prog_6_method_15_code 27 = .ok (.aload_n 0, 1) := by decide +kernel
theorem d_p6m15_28 : decode prog_6_method_15_code 28 = .ok (.invokevirtual 69, 3) := by decide +kernel
theorem d_p6m15_31 : decode prog_6_method_15_code 31 = .ok (.if_icmp .lt 5, 3) := by decide +kernel
theorem d_p6m15_34 : decode prog_6_method_15_code 34 = .ok (.iconst (-1), 1) := by decide +kernel
theorem d_p6m15_35 : decode prog_6_method_15_code 35 = .ok (.ireturn, 1) := by decide +kernel
theorem d_p6m15_36 : decode prog_6_method_15_code 36 = .ok (.aload_n 0, 1) := by decide +kernel
theorem d_p6m15_37 : decode prog_6_method_15_code 37 = .ok (.iload_n 2, 1) := by decide +kernel
theorem d_p6m15_38 : decode prog_6_method_15_code 38 = .ok (.invokevirtual 72, 3) := by decide +kernel
theorem d_p6m15_41 : decode prog_6_method_15_code 41 = .ok (.bipush 76, 2) := by decide +kernel
theorem d_p6m15_43 : decode prog_6_method_15_code 43 = .ok (.if_icmp .ne 11, 3) := by decide +kernel
theorem d_p6m15_46 : decode prog_6_method_15_code 46 = .ok (.aload_n 0, 1) := by decide +kernel
theorem d_p6m15_47 : decode prog_6_method_15_code 47 = .ok (.iload_n 2, 1) := by decide +kernel
theorem d_p6m15_48 : decode prog_6_method_15_code 48 = .ok (.iconst 1, 1) := by decide +kernel
theorem d_p6m15_49 : decode prog_6_method_15_code 49 = .ok (.iadd, 1) := by decide +kernel
theorem d_p6m15_50 : decode prog_6_method_15_code 50 = .ok (.invokestatic 126, 3) := by decide +kernel
theorem d_p6m15_53 : decode prog_6_method_15_code 53 = .ok (.ireturn, 1) := by decide +kernel
theorem d_p6m15_54 : decode prog_6_method_15_code 54 = .ok (.ldc 129, 2) := by decide +kernel
theorem d_p6m15_56 : decode prog_6_method_15_code 56 = .ok (.aload_n 0, 1) := by decide +kernel
theorem d_p6m15_57 : decode prog_6_method_15_code 57 = .ok (.iload_n 2, 1) := by decide +kernel
theorem d_p6m15_58 : decode prog_6_method_15_code 58 = .ok (.invokevirtual 72, 3) := by decide +kernel
theorem d_p6m15_61 : decode prog_6_method_15_code 61 = .ok (.invokevirtual 84, 3) := by decide +kernel
theorem d_p6m15_64 : decode prog_6_method_15_code 64 = .ok (.ifCond .ge 7, 3) := by decide +kernel
theorem d_p6m15_67 : decode prog_6_method_15_code 67 = .ok (.iconst (-1), 1) := by decide +kernel
theorem d_p6m15_68 : decode prog_6_method_15_code 68 = .ok (.goto 6, 3) := by decide +kernel
theorem d_p6m15_71 : decode prog_6_method_15_code 71 = .ok (.iload_n 2, 1) := by decide +kernel
theorem d_p6m15_72 : decode prog_6_method_15_code 72 = .ok (.iconst 1, 1) := by decide +kernel
theorem d_p6m15_73 : decode prog_6_method_15_code 73 = .ok (.iadd, 1) := by decide +kernel
theorem d_p6m15_74 : decode prog_6_method_15_code 74 = .ok (.ireturn, 1) := by decide +kernel
abbrev y_Grammar_typeEnd : MethodName := ⟨"PolicyDesk$Grammar", "typeEnd", "(Ljava/lang/String;I)I"⟩
theorem ok_Grammar_typeEnd : pd_ok y_Grammar_typeEnd prog_6_method_15_code 3 (some .int) 2 := ⟨mT_722, mT_25, by decide, by decide +kernel⟩
abbrev rm_Grammar_typeEnd : Room := { frames := 6, cells := 2, slots := 64, locals := 154 }
set_option maxHeartbeats 4000000 in
set_option maxRecDepth 100000 in
theorem lp_Grammar_typeEnd_2 (l : Launch) (G : pd_G) (h : pd_H) {a : Nat} {cs : List Nat} {x : Nat} (hS : pd_Str h a cs) (hx1 : x ≤ 500) {p : Program} {e : Env} {s : State} {m : MethodId} {below : List Frame} {meth : Method} {c : Code} (X : pd_B p s m [.ref a, .int (nI x)].toArray meth c G y_Grammar_typeEnd.cls prog_6_method_15_code 3 (some .int)) (hmn : meth.name = y_Grammar_typeEnd.name) :
    ∀ (kk9 : Nat) (i : Nat), (i ≤ 600) → (gr_br (cs.drop i) i = gr_br (cs.drop x) x) → 700 - i < kk9 → ∀ (H : Heap) (locs : List Loc), pd_w G s H locs h → ∀ ls : Array Slot, lv_has ls 3 [(2, .int (nI i)), (0, .ref a), (1, .int (nI x))] → W p l e rm_Grammar_typeEnd s m [.ref a, .int (nI x)].toArray below meth c H locs 0 0 (MQ below (pd_Q G pd_vm (fun r h1 => r = gr_te cs x ∧ pd_kx [] h h1)) [.ref a, .int (nI x)].toArray s rm_Grammar_typeEnd.cells rm_Grammar_typeEnd.slots (fun q => G.2.1 ≤ q)) (F0 m 2 ls []) := by
  have hx := X.1
  have hb := X.2.1
  obtain ⟨v1, f1, hv1, hv2, hvf, hvc, hvl⟩ := id hS
  intro kk9
  induction kk9 with
  | zero => intros; omega
  | succ kk9 ih =>
    intro i hi hs hmu H locs w ls hl
    refine lv_iload_n hx hb d_p6m15_2 rfl (lv_at hl 0 rfl) ?_
    refine lv_aload_n hx hb d_p6m15_3 rfl (lv_at hl 1 rfl) ?_
    refine pd_cV (a := a) (As := []) (rest := [.int (nI i)]) X w hv1 rfl (c_String_length l G h (by assumption)) ok_String_length ⟨mT_93, mT_94⟩ mT_638 ⟨by decide, by decide⟩ rfl hl.1 rfl (Nat.le_of_ble_eq_true rfl) d_p6m15_4 ⟨by decide, by decide⟩ (fun r1 h2 H locs hp3 w => ?_)
    refine W.widen (k := 0) (n := 0) (by decide) (by decide) ?_
    obtain ⟨e4, rfl⟩ := hp3
    refine pd_jge (tgt := 26) hx hb d_p6m15_7 (by decide) (by omega) (by omega) (fun q5 => ?_) (fun q5 => ?_)
    · -- taken: 26
      refine lv_iload_n hx hb d_p6m15_26 rfl (lv_at hl 0 rfl) ?_
      refine lv_aload_n hx hb d_p6m15_27 rfl (lv_at hl 1 rfl) ?_
      refine pd_cV (a := a) (As := []) (rest := [.int (nI i)]) X w hv1 rfl (c_String_length l G h (by assumption)) ok_String_length ⟨mT_93, mT_94⟩ mT_638 ⟨by decide, by decide⟩ rfl hl.1 rfl (Nat.le_of_ble_eq_true rfl) d_p6m15_28 ⟨by decide, by decide⟩ (fun r6 h7 H locs hp8 w => ?_)
      refine W.widen (k := 0) (n := 0) (by decide) (by decide) ?_
      obtain ⟨e9, rfl⟩ := hp8
      refine pd_jlt (tgt := 36) hx hb d_p6m15_31 (by decide) (by omega) (by omega) (fun q10 => ?_) (fun q10 => ?_)
      · -- taken: 36
        refine lv_aload_n hx hb d_p6m15_36 rfl (lv_at hl 1 rfl) ?_
        refine lv_iload_n hx hb d_p6m15_37 rfl (lv_at hl 0 rfl) ?_
        refine pd_cV (a := a) (As := [.int (nI i)]) (rest := []) X w hv1 rfl (c_String_charAt l G h (by assumption) (by omega)) ok_String_charAt ⟨mT_102, mT_103⟩ mT_639 ⟨by decide, by decide⟩ rfl hl.1 rfl (Nat.le_of_ble_eq_true rfl) d_p6m15_38 ⟨by decide, by decide⟩ (fun r11 h12 H locs hp13 w => ?_)
        refine W.widen (k := 0) (n := 0) (by decide) (by decide) ?_
        obtain ⟨e14, lt15, rfl⟩ := hp13
        refine lv_bipush (v := nI 76) hx hb d_p6m15_41 (by decide) ?_
        refine pd_jne (tgt := 54) hx hb d_p6m15_43 (by decide) (by omega) (by omega) (fun q16 => ?_) (fun q16 => ?_)
        · -- taken: 54
          refine pd_ldc X (List.mem_of_getElem? (i := 7) rfl) d_p6m15_54 ?_
          have L17 : pd_Str h (G.2.2.2 47) [73, 74, 70, 68, 90, 66, 67, 83] := pd_litS X w 7 (by decide)
          obtain ⟨v18, g19, f20, f21, gf22, gc23, gl24⟩ := id L17
          refine lv_aload_n hx hb d_p6m15_56 rfl (lv_at hl 1 rfl) ?_
          refine lv_iload_n hx hb d_p6m15_57 rfl (lv_at hl 0 rfl) ?_
          refine pd_cV (a := a) (As := [.int (nI i)]) (rest := [.ref (G.2.2.2 47)]) X w hv1 rfl (c_String_charAt l G h (by assumption) (by omega)) ok_String_charAt ⟨mT_102, mT_103⟩ mT_639 ⟨by decide, by decide⟩ rfl hl.1 rfl (Nat.le_of_ble_eq_true rfl) d_p6m15_58 ⟨by decide, by decide⟩ (fun r25 h26 H locs hp27 w => ?_)
          refine W.widen (k := 0) (n := 0) (by decide) (by decide) ?_
          obtain ⟨e28, lt29, rfl⟩ := hp27
          refine pd_cV (a := (G.2.2.2 47)) (As := [.int (nI r25)]) (rest := []) X w f20 rfl (c_String_indexOf l G h (by assumption) (by omega)) ok_String_indexOf ⟨mT_652, mT_653⟩ mT_651 ⟨by decide, by decide⟩ rfl hl.1 rfl (Nat.le_of_ble_eq_true rfl) d_p6m15_61 ⟨by decide, by decide⟩ (fun r30 h31 H locs hp32 w => ?_)
          refine W.widen (k := 0) (n := 0) (by decide) (by decide) ?_
          obtain ⟨e33, rfl⟩ := hp32
          refine pd_mge (tgt := 71) hx hb d_p6m15_64 (by decide) (fun x hx => by have z := tx_ix_lt (e33.symm.trans hx); (try simp at z); omega) (fun q34 => ?_) (fun j35 q34 => ?_)
          · -- none: 67
            rw [q34] at e33
            refine lv_iconst (v := -1) hx hb d_p6m15_67 (by decide) ?_
            refine lv_goto (tgt := 74) hx hb d_p6m15_68 (by decide) ?_
            refine W.eq (g2 := F0 m 74 ls [.int (pd_m none)]) rfl ?_
            exact pd_mret (v := none) X w ⟨(gr_te_n (by first | exact hs.symm.trans (gr_br_end (by omega)) | exact hs.symm.trans (gr_br_n (by omega) (by omega))) (by omega) (by omega) (by rw [← e28]; exact e33.symm)).symm, pd_kx.rf⟩ (by decide) (by decide) d_p6m15_74
          · -- some: 71
            rw [q34] at e33
            have j35lt := tx_ix_lt e33.symm
            refine lv_iload_n hx hb d_p6m15_71 rfl (lv_at hl 0 rfl) ?_
            refine lv_iconst (v := nI 1) hx hb d_p6m15_72 (by decide) ?_
            refine pd_iadd hx hb d_p6m15_73 ?_
            refine W.eq (g2 := F0 m 74 ls [.int (pd_m (some (i + 1)))]) rfl ?_
            exact pd_mret (v := (some (i + 1))) X w ⟨(gr_te_s (by first | exact hs.symm.trans (gr_br_end (by omega)) | exact hs.symm.trans (gr_br_n (by omega) (by omega))) (by omega) (by omega) (by rw [← e28]; exact e33.symm)).symm, pd_kx.rf⟩ (by decide) (by decide) d_p6m15_74
        · -- not taken: 46
          refine lv_aload_n hx hb d_p6m15_46 rfl (lv_at hl 1 rfl) ?_
          refine lv_iload_n hx hb d_p6m15_47 rfl (lv_at hl 0 rfl) ?_
          refine lv_iconst (v := nI 1) hx hb d_p6m15_48 (by decide) ?_
          refine pd_iadd hx hb d_p6m15_49 ?_
          refine pd_cS (As := [.ref a, .int (nI (i + 1))]) (rest := []) X w (c_Grammar_nameTypeEnd l G h (by assumption) (by omega)) ok_Grammar_nameTypeEnd mT_724 mT_723 ⟨by decide, by decide⟩ rfl hl.1 rfl (Nat.le_of_ble_eq_true rfl) d_p6m15_50 ⟨by decide, by decide⟩ (fun r36 h37 H locs hp38 w => ?_)
          refine W.widen (k := 2) (n := 64) (by decide) (by decide) ?_
          obtain ⟨e39, k40⟩ := hp38
          have f41 := k40 _ _ hv1 List.not_mem_nil
          have f42 := k40 _ _ hv2 List.not_mem_nil
          have f43 := hS.kx k40 List.not_mem_nil
          exact pd_mret (v := r36) X w ⟨(by rw [gr_te_L (by first | exact hs.symm.trans (gr_br_end (by omega)) | exact hs.symm.trans (gr_br_n (by omega) (by omega))) (by omega) (by omega)]; assumption), k40⟩ (by decide) (by decide) d_p6m15_53
      · -- not taken: 34
        refine lv_iconst (v := -1) hx hb d_p6m15_34 (by decide) ?_
        refine W.eq (g2 := F0 m 35 ls [.int (pd_m none)]) rfl ?_
        exact pd_mret (v := none) X w ⟨(gr_te_0 (by first | exact hs.symm.trans (gr_br_end (by omega)) | exact hs.symm.trans (gr_br_n (by omega) (by omega))) (by omega)).symm, pd_kx.rf⟩ (by decide) (by decide) d_p6m15_35
    · -- not taken: 10
      refine lv_aload_n hx hb d_p6m15_10 rfl (lv_at hl 1 rfl) ?_
      refine lv_iload_n hx hb d_p6m15_11 rfl (lv_at hl 0 rfl) ?_
      refine pd_cV (a := a) (As := [.int (nI i)]) (rest := []) X w hv1 rfl (c_String_charAt l G h (by assumption) (by omega)) ok_String_charAt ⟨mT_102, mT_103⟩ mT_639 ⟨by decide, by decide⟩ rfl hl.1 rfl (Nat.le_of_ble_eq_true rfl) d_p6m15_12 ⟨by decide, by decide⟩ (fun r44 h45 H locs hp46 w => ?_)
      refine W.widen (k := 0) (n := 0) (by decide) (by decide) ?_
      obtain ⟨e47, lt48, rfl⟩ := hp46
      refine lv_bipush (v := nI 91) hx hb d_p6m15_15 (by decide) ?_
      refine pd_jne (tgt := 26) hx hb d_p6m15_17 (by decide) (by omega) (by omega) (fun q49 => ?_) (fun q49 => ?_)
      · -- taken: 26
        refine lv_iload_n hx hb d_p6m15_26 rfl (lv_at hl 0 rfl) ?_
        refine lv_aload_n hx hb d_p6m15_27 rfl (lv_at hl 1 rfl) ?_
        refine pd_cV (a := a) (As := []) (rest := [.int (nI i)]) X w hv1 rfl (c_String_length l G h (by assumption)) ok_String_length ⟨mT_93, mT_94⟩ mT_638 ⟨by decide, by decide⟩ rfl hl.1 rfl (Nat.le_of_ble_eq_true rfl) d_p6m15_28 ⟨by decide, by decide⟩ (fun r50 h51 H locs hp52 w => ?_)
        refine W.widen (k := 0) (n := 0) (by decide) (by decide) ?_
        obtain ⟨e53, rfl⟩ := hp52
        refine pd_jlt (tgt := 36) hx hb d_p6m15_31 (by decide) (by omega) (by omega) (fun q54 => ?_) (fun q54 => ?_)
        · -- taken: 36
          refine lv_aload_n hx hb d_p6m15_36 rfl (lv_at hl 1 rfl) ?_
          refine lv_iload_n hx hb d_p6m15_37 rfl (lv_at hl 0 rfl) ?_
          refine pd_cV (a := a) (As := [.int (nI i)]) (rest := []) X w hv1 rfl (c_String_charAt l G h (by assumption) (by omega)) ok_String_charAt ⟨mT_102, mT_103⟩ mT_639 ⟨by decide, by decide⟩ rfl hl.1 rfl (Nat.le_of_ble_eq_true rfl) d_p6m15_38 ⟨by decide, by decide⟩ (fun r55 h56 H locs hp57 w => ?_)
          refine W.widen (k := 0) (n := 0) (by decide) (by decide) ?_
          obtain ⟨e58, lt59, rfl⟩ := hp57
          refine lv_bipush (v := nI 76) hx hb d_p6m15_41 (by decide) ?_
          refine pd_jne (tgt := 54) hx hb d_p6m15_43 (by decide) (by omega) (by omega) (fun q60 => ?_) (fun q60 => ?_)
          · -- taken: 54
            refine pd_ldc X (List.mem_of_getElem? (i := 7) rfl) d_p6m15_54 ?_
            have L61 : pd_Str h (G.2.2.2 47) [73, 74, 70, 68, 90, 66, 67, 83] := pd_litS X w 7 (by decide)
            obtain ⟨v62, g63, f64, f65, gf66, gc67, gl68⟩ := id L61
            refine lv_aload_n hx hb d_p6m15_56 rfl (lv_at hl 1 rfl) ?_
            refine lv_iload_n hx hb d_p6m15_57 rfl (lv_at hl 0 rfl) ?_
            refine pd_cV (a := a) (As := [.int (nI i)]) (rest := [.ref (G.2.2.2 47)]) X w hv1 rfl (c_String_charAt l G h (by assumption) (by omega)) ok_String_charAt ⟨mT_102, mT_103⟩ mT_639 ⟨by decide, by decide⟩ rfl hl.1 rfl (Nat.le_of_ble_eq_true rfl) d_p6m15_58 ⟨by decide, by decide⟩ (fun r69 h70 H locs hp71 w => ?_)
            refine W.widen (k := 0) (n := 0) (by decide) (by decide) ?_
            obtain ⟨e72, lt73, rfl⟩ := hp71
            refine pd_cV (a := (G.2.2.2 47)) (As := [.int (nI r69)]) (rest := []) X w f64 rfl (c_String_indexOf l G h (by assumption) (by omega)) ok_String_indexOf ⟨mT_652, mT_653⟩ mT_651 ⟨by decide, by decide⟩ rfl hl.1 rfl (Nat.le_of_ble_eq_true rfl) d_p6m15_61 ⟨by decide, by decide⟩ (fun r74 h75 H locs hp76 w => ?_)
            refine W.widen (k := 0) (n := 0) (by decide) (by decide) ?_
            obtain ⟨e77, rfl⟩ := hp76
            refine pd_mge (tgt := 71) hx hb d_p6m15_64 (by decide) (fun x hx => by have z := tx_ix_lt (e77.symm.trans hx); (try simp at z); omega) (fun q78 => ?_) (fun j79 q78 => ?_)
            · -- none: 67
              rw [q78] at e77
              refine lv_iconst (v := -1) hx hb d_p6m15_67 (by decide) ?_
              refine lv_goto (tgt := 74) hx hb d_p6m15_68 (by decide) ?_
              refine W.eq (g2 := F0 m 74 ls [.int (pd_m none)]) rfl ?_
              exact pd_mret (v := none) X w ⟨(gr_te_n (by first | exact hs.symm.trans (gr_br_end (by omega)) | exact hs.symm.trans (gr_br_n (by omega) (by omega))) (by omega) (by omega) (by rw [← e72]; exact e77.symm)).symm, pd_kx.rf⟩ (by decide) (by decide) d_p6m15_74
            · -- some: 71
              rw [q78] at e77
              have j79lt := tx_ix_lt e77.symm
              refine lv_iload_n hx hb d_p6m15_71 rfl (lv_at hl 0 rfl) ?_
              refine lv_iconst (v := nI 1) hx hb d_p6m15_72 (by decide) ?_
              refine pd_iadd hx hb d_p6m15_73 ?_
              refine W.eq (g2 := F0 m 74 ls [.int (pd_m (some (i + 1)))]) rfl ?_
              exact pd_mret (v := (some (i + 1))) X w ⟨(gr_te_s (by first | exact hs.symm.trans (gr_br_end (by omega)) | exact hs.symm.trans (gr_br_n (by omega) (by omega))) (by omega) (by omega) (by rw [← e72]; exact e77.symm)).symm, pd_kx.rf⟩ (by decide) (by decide) d_p6m15_74
          · -- not taken: 46
            refine lv_aload_n hx hb d_p6m15_46 rfl (lv_at hl 1 rfl) ?_
            refine lv_iload_n hx hb d_p6m15_47 rfl (lv_at hl 0 rfl) ?_
            refine lv_iconst (v := nI 1) hx hb d_p6m15_48 (by decide) ?_
            refine pd_iadd hx hb d_p6m15_49 ?_
            refine pd_cS (As := [.ref a, .int (nI (i + 1))]) (rest := []) X w (c_Grammar_nameTypeEnd l G h (by assumption) (by omega)) ok_Grammar_nameTypeEnd mT_724 mT_723 ⟨by decide, by decide⟩ rfl hl.1 rfl (Nat.le_of_ble_eq_true rfl) d_p6m15_50 ⟨by decide, by decide⟩ (fun r80 h81 H locs hp82 w => ?_)
            refine W.widen (k := 2) (n := 64) (by decide) (by decide) ?_
            obtain ⟨e83, k84⟩ := hp82
            have f85 := k84 _ _ hv1 List.not_mem_nil
            have f86 := k84 _ _ hv2 List.not_mem_nil
            have f87 := hS.kx k84 List.not_mem_nil
            exact pd_mret (v := r80) X w ⟨(by rw [gr_te_L (by first | exact hs.symm.trans (gr_br_end (by omega)) | exact hs.symm.trans (gr_br_n (by omega) (by omega))) (by omega) (by omega)]; assumption), k84⟩ (by decide) (by decide) d_p6m15_53
        · -- not taken: 34
          refine lv_iconst (v := -1) hx hb d_p6m15_34 (by decide) ?_
          refine W.eq (g2 := F0 m 35 ls [.int (pd_m none)]) rfl ?_
          exact pd_mret (v := none) X w ⟨(gr_te_0 (by first | exact hs.symm.trans (gr_br_end (by omega)) | exact hs.symm.trans (gr_br_n (by omega) (by omega))) (by omega)).symm, pd_kx.rf⟩ (by decide) (by decide) d_p6m15_35
      · -- not taken: 20
        refine pd_iinc (k := 0) (d := 1) (lv' := [(2, .int (nI (i + 1))), (0, .ref a), (1, .int (nI x))]) hx hb d_p6m15_20 (by decide) hl rfl (by decide) rfl (fun ls hl => ?_)
        refine lv_goto (tgt := 2) hx hb d_p6m15_23 (by decide) ?_
        exact ih (i + 1) (by omega) ((gr_br_y (by omega) (by omega)).symm.trans hs) (by omega) _ _ w ls (lv_sub hl [0, 1, 2] rfl)
set_option maxHeartbeats 4000000 in
set_option maxRecDepth 100000 in
theorem c_Grammar_typeEnd (l : Launch) (G : pd_G) (h : pd_H) {a : Nat} {cs : List Nat} {x : Nat} (hS : pd_Str h a cs) (hx1 : x ≤ 500) : pd_M l y_Grammar_typeEnd prog_6_method_15_code 3 (some .int) rm_Grammar_typeEnd G h [.ref a, .int (nI x)] pd_vm (fun r h1 => r = gr_te cs x ∧ pd_kx [] h h1) := by
  refine pd_M.of (by decide) (Nat.le_of_ble_eq_true rfl) ?_
  intro p e s m below meth c X hmn w ls hl
  have hx := X.1
  have hb := X.2.1
  have hl : lv_has ls 3 [(0, .ref a), (1, .int (nI x))] := hl
  obtain ⟨v1, f1, hv1, hv2, hvf, hvc, hvl⟩ := id hS
  refine lv_iload_n hx hb d_p6m15_0 rfl (lv_at hl 1 rfl) ?_
  refine lv_istore_n (lv' := [(2, .int (nI x)), (0, .ref a), (1, .int (nI x))]) hx hb d_p6m15_1 rfl hl (by decide) rfl (fun ls hl => ?_)
  exact lp_Grammar_typeEnd_2 l G h hS hx1 X hmn (700 + 1) x (by omega) (rfl) (by omega) _ _ w ls (lv_sub hl [0, 1, 2] rfl)
theorem d_p6m12_0 : decode prog_6_method_12_code 0 = .ok (.aload_n 0, 1) := by decide +kernel
theorem d_p6m12_1 : decode prog_6_method_12_code 1 = .ok (.iconst 0, 1) := by decide +kernel
theorem d_p6m12_2 : decode prog_6_method_12_code 2 = .ok (.invokestatic 118, 3) := by decide +kernel
theorem d_p6m12_5 : decode prog_6_method_12_code 5 = .ok (.aload_n 0, 1) := by decide +kernel
theorem d_p6m12_6 : decode prog_6_method_12_code 6 = .ok (.invokevirtual 69, 3) := by decide +kernel
theorem d_p6m12_9 : decode prog_6_method_12_code 9 = .ok (.if_icmp .ne 7, 3) := by decide +kernel
theorem d_p6m12_12 : decode prog_6_method_12_code 12 = .ok (.iconst 1, 1) := by decide +kernel
theorem d_p6m12_13 : decode prog_6_method_12_code 13 = .ok (.goto 4, 3) := by decide +kernel
theorem d_p6m12_16 : decode prog_6_method_12_code 16 = .ok (.iconst 0, 1) := by decide +kernel
theorem d_p6m12_17 : decode prog_6_method_12_code 17 = .ok (.ireturn, 1) := by decide +kernel
abbrev y_Grammar_isType : MethodName := ⟨"PolicyDesk$Grammar", "isType", "(Ljava/lang/String;)Z"⟩
theorem ok_Grammar_isType : pd_ok y_Grammar_isType prog_6_method_12_code 1 (some .boolean) 1 := ⟨mT_719, mT_25, by decide, by decide +kernel⟩
abbrev rm_Grammar_isType : Room := { frames := 7, cells := 2, slots := 64, locals := 176 }
set_option maxHeartbeats 4000000 in
set_option maxRecDepth 100000 in
theorem c_Grammar_isType (l : Launch) (G : pd_G) (h : pd_H) {a : Nat} {cs : List Nat} (hS : pd_Str h a cs) : pd_M l y_Grammar_isType prog_6_method_12_code 1 (some .boolean) rm_Grammar_isType G h [.ref a] pd_vb (fun r h1 => r = gr_type cs ∧ pd_kx [] h h1) := by
  refine pd_M.of (by decide) (Nat.le_of_ble_eq_true rfl) ?_
  intro p e s m below meth c X hmn w ls hl
  have hx := X.1
  have hb := X.2.1
  have hl : lv_has ls 1 [(0, .ref a)] := hl
  obtain ⟨v1, f1, hv1, hv2, hvf, hvc, hvl⟩ := id hS
  refine lv_aload_n hx hb d_p6m12_0 rfl (lv_at hl 0 rfl) ?_
  refine lv_iconst (v := nI 0) hx hb d_p6m12_1 (by decide) ?_
  refine pd_cS (As := [.ref a, .int (nI 0)]) (rest := []) X w (c_Grammar_typeEnd l G h (by assumption) (by omega)) ok_Grammar_typeEnd mT_721 mT_720 ⟨by decide, by decide⟩ rfl hl.1 rfl (Nat.le_of_ble_eq_true rfl) d_p6m12_2 ⟨by decide, by decide⟩ (fun r1 h2 H locs hp3 w => ?_)
  refine W.widen (k := 2) (n := 64) (by decide) (by decide) ?_
  obtain ⟨e4, k5⟩ := hp3
  have f6 := k5 _ _ hv1 List.not_mem_nil
  have f7 := k5 _ _ hv2 List.not_mem_nil
  have f8 := hS.kx k5 List.not_mem_nil
  rcases q10 : r1 with _ | j9
  · -- none
    rw [q10] at e4
    refine W.eq (g2 := F0 m 5 ls [.int (-1)]) rfl ?_
    refine lv_aload_n hx hb d_p6m12_5 rfl (lv_at hl 0 rfl) ?_
    refine pd_cV (a := a) (As := []) (rest := [.int (-1)]) X w f6 rfl (c_String_length l G h2 (by assumption)) ok_String_length ⟨mT_93, mT_94⟩ mT_638 ⟨by decide, by decide⟩ rfl hl.1 rfl (Nat.le_of_ble_eq_true rfl) d_p6m12_6 ⟨by decide, by decide⟩ (fun r11 h12 H locs hp13 w => ?_)
    refine W.widen (k := 2) (n := 64) (by decide) (by decide) ?_
    obtain ⟨e14, rfl⟩ := hp13
    refine lv_icmp_ne (tgt := 16) hx hb d_p6m12_9 (by decide) (fun _ => ?_) (fun q => absurd q (pd_m1 (by omega)))
    refine lv_iconst (v := nI 0) hx hb d_p6m12_16 (by decide) ?_
    refine W.eq (g2 := F0 m 17 ls [.int (pd_b false)]) rfl ?_
    exact pd_zret (v := false) X w ⟨by unfold gr_type; rw [← e4]; first | exact absurd q10 (pd_m1 (by omega)) | exact (decide_eq_true (by congr 1; omega)).symm | exact (decide_eq_false (fun z => by cases z; omega)).symm | exact (decide_eq_false (fun z => by cases z)).symm, k5⟩ (by decide) (by decide) d_p6m12_17
  · -- some
    rw [q10] at e4
    have j9le := gr_te_le e4.symm
    refine W.eq (g2 := F0 m 5 ls [.int (nI j9)]) rfl ?_
    refine lv_aload_n hx hb d_p6m12_5 rfl (lv_at hl 0 rfl) ?_
    refine pd_cV (a := a) (As := []) (rest := [.int (nI j9)]) X w f6 rfl (c_String_length l G h2 (by assumption)) ok_String_length ⟨mT_93, mT_94⟩ mT_638 ⟨by decide, by decide⟩ rfl hl.1 rfl (Nat.le_of_ble_eq_true rfl) d_p6m12_6 ⟨by decide, by decide⟩ (fun r16 h17 H locs hp18 w => ?_)
    refine W.widen (k := 2) (n := 64) (by decide) (by decide) ?_
    obtain ⟨e19, rfl⟩ := hp18
    refine pd_jne (tgt := 16) hx hb d_p6m12_9 (by decide) (by omega) (by omega) (fun q20 => ?_) (fun q20 => ?_)
    · -- taken: 16
      refine lv_iconst (v := nI 0) hx hb d_p6m12_16 (by decide) ?_
      refine W.eq (g2 := F0 m 17 ls [.int (pd_b false)]) rfl ?_
      exact pd_zret (v := false) X w ⟨by unfold gr_type; rw [← e4]; first | exact absurd q20 (pd_m1 (by omega)) | exact (decide_eq_true (by congr 1; omega)).symm | exact (decide_eq_false (fun z => by cases z; omega)).symm | exact (decide_eq_false (fun z => by cases z)).symm, k5⟩ (by decide) (by decide) d_p6m12_17
    · -- not taken: 12
      refine lv_iconst (v := nI 1) hx hb d_p6m12_12 (by decide) ?_
      refine lv_goto (tgt := 17) hx hb d_p6m12_13 (by decide) ?_
      refine W.eq (g2 := F0 m 17 ls [.int (pd_b true)]) rfl ?_
      exact pd_zret (v := true) X w ⟨by unfold gr_type; rw [← e4]; first | exact absurd q20 (pd_m1 (by omega)) | exact (decide_eq_true (by congr 1; omega)).symm | exact (decide_eq_false (fun z => by cases z; omega)).symm | exact (decide_eq_false (fun z => by cases z)).symm, k5⟩ (by decide) (by decide) d_p6m12_17
def gr_marks (cs : List Nat) : Bool := decide (cs = [115] ∨ cs = [110] ∨ cs = [115, 110] ∨ cs = [110, 115])
def gr_mk (cs : List Nat) : Nat := (match tx_ix cs 115 with | none => 0 | some _ => 1) + (match tx_ix cs 110 with | none => 0 | some _ => 2)
theorem d_p6m17_0 : decode prog_6_method_17_code 0 = .ok (.aload_n 0, 1) := by decide +kernel
theorem d_p6m17_1 : decode prog_6_method_17_code 1 = .ok (.ldc 131, 2) := by decide +kernel
theorem d_p6m17_3 : decode prog_6_method_17_code 3 = .ok (.invokevirtual 60, 3) := by decide +kernel
theorem d_p6m17_6 : decode prog_6_method_17_code 6 = .ok (.ifCond .ne 30, 3) := by decide +kernel
theorem d_p6m17_9 : decode prog_6_method_17_code 9 = .ok (.aload_n 0, 1) := by decide +kernel
theorem d_p6m17_10 : decode prog_6_method_17_code 10 = .ok (.ldc 133, 2) := by decide +kernel
theorem d_p6m17_12 : decode prog_6_method_17_code 12 = .ok (.invokevirtual 60, 3) := by decide +kernel
theorem d_p6m17_15 : decode prog_6_method_17_code 15 = .ok (.ifCond .ne 21, 3) := by decide +kernel
theorem d_p6m17_18 : decode prog_6_method_17_code 18 = .ok (.aload_n 0, 1) := by decide +kernel
theorem d_p6m17_19 : decode prog_6_method_17_code 19 = .ok (.ldc 135, 2) := by decide +kernel
theorem d_p6m17_21 : decode prog_6_method_17_code 21 = .ok (.invokevirtual 60, 3) := by decide +kernel
theorem d_p6m17_24 : decode prog_6_method_17_code 24 = .ok (.ifCond .ne 12, 3) := by decide +kernel
theorem d_p6m17_27 : decode prog_6_method_17_code 27 = .ok (.aload_n 0, 1) := by decide +kernel
theorem d_p6m17_28 : decode prog_6_method_17_code 28 = .ok (.ldc 137, 2) := by decide +kernel
theorem d_p6m17_30 : decode prog_6_method_17_code 30 = .ok (.invokevirtual 60, 3) := by decide +kernel
theorem d_p6m17_33 : decode prog_6_method_17_code 33 = .ok (.ifCond .eq 7, 3) := by decide +kernel
theorem d_p6m17_36 : decode prog_6_method_17_code 36 = .ok (.iconst 1, 1) := by decide +kernel
theorem d_p6m17_37 : decode prog_6_method_17_code 37 = .ok (.goto 4, 3) := by decide +kernel
theorem d_p6m17_40 : decode prog_6_method_17_code 40 = .ok (.iconst 0, 1) := by decide +kernel
theorem d_p6m17_41 : decode prog_6_method_17_code 41 = .ok (.ireturn, 1) := by decide +kernel
abbrev y_Grammar_isMarks : MethodName := ⟨"PolicyDesk$Grammar", "isMarks", "(Ljava/lang/String;)Z"⟩
theorem ok_Grammar_isMarks : pd_ok y_Grammar_isMarks prog_6_method_17_code 1 (some .boolean) 1 := ⟨mT_732, mT_25, by decide, by decide +kernel⟩
abbrev rm_Grammar_isMarks : Room := { frames := 2, cells := 0, slots := 0, locals := 44 }
set_option maxHeartbeats 4000000 in
set_option maxRecDepth 100000 in
theorem c_Grammar_isMarks (l : Launch) (G : pd_G) (h : pd_H) {a : Nat} {cs : List Nat} (hS : pd_Str h a cs) : pd_M l y_Grammar_isMarks prog_6_method_17_code 1 (some .boolean) rm_Grammar_isMarks G h [.ref a] pd_vb (fun r h1 => r = gr_marks cs ∧ h = h1) := by
  refine pd_M.of (by decide) (Nat.le_of_ble_eq_true rfl) ?_
  intro p e s m below meth c X hmn w ls hl
  have hx := X.1
  have hb := X.2.1
  have hl : lv_has ls 1 [(0, .ref a)] := hl
  obtain ⟨v1, f1, hv1, hv2, hvf, hvc, hvl⟩ := id hS
  refine lv_aload_n hx hb d_p6m17_0 rfl (lv_at hl 0 rfl) ?_
  refine pd_ldc X (List.mem_of_getElem? (i := 8) rfl) d_p6m17_1 ?_
  have L1 : pd_Str h (G.2.2.2 48) [115] := pd_litS X w 8 (by decide)
  obtain ⟨v2, g3, f4, f5, gf6, gc7, gl8⟩ := id L1
  refine pd_cV (a := a) (As := [.ref (G.2.2.2 48)]) (rest := []) X w hv1 rfl (c_String_equals l G h (by assumption) (by assumption)) ok_String_equals ⟨mT_613, mT_614⟩ mT_644 ⟨by decide, by decide⟩ rfl hl.1 rfl (Nat.le_of_ble_eq_true rfl) d_p6m17_3 ⟨by decide, by decide⟩ (fun r9 h10 H locs hp11 w => ?_)
  refine W.widen (k := 0) (n := 0) (by decide) (by decide) ?_
  obtain ⟨e12, rfl⟩ := hp11
  refine pd_bne (tgt := 36) hx hb d_p6m17_6 (by decide) (fun q13 => ?_) (fun q13 => ?_)
  · -- taken: 36
    refine lv_iconst (v := nI 1) hx hb d_p6m17_36 (by decide) ?_
    refine lv_goto (tgt := 41) hx hb d_p6m17_37 (by decide) ?_
    refine W.eq (g2 := F0 m 41 ls [.int (pd_b true)]) rfl ?_
    exact pd_zret (v := true) X w ⟨(decide_eq_true (Or.inl (of_decide_eq_true (e12.symm.trans q13)))).symm, rfl⟩ (by decide) (by decide) d_p6m17_41
  · -- not taken: 9
    refine lv_aload_n hx hb d_p6m17_9 rfl (lv_at hl 0 rfl) ?_
    refine pd_ldc X (List.mem_of_getElem? (i := 9) rfl) d_p6m17_10 ?_
    have L14 : pd_Str h (G.2.2.2 49) [110] := pd_litS X w 9 (by decide)
    obtain ⟨v15, g16, f17, f18, gf19, gc20, gl21⟩ := id L14
    refine pd_cV (a := a) (As := [.ref (G.2.2.2 49)]) (rest := []) X w hv1 rfl (c_String_equals l G h (by assumption) (by assumption)) ok_String_equals ⟨mT_613, mT_614⟩ mT_644 ⟨by decide, by decide⟩ rfl hl.1 rfl (Nat.le_of_ble_eq_true rfl) d_p6m17_12 ⟨by decide, by decide⟩ (fun r22 h23 H locs hp24 w => ?_)
    refine W.widen (k := 0) (n := 0) (by decide) (by decide) ?_
    obtain ⟨e25, rfl⟩ := hp24
    refine pd_bne (tgt := 36) hx hb d_p6m17_15 (by decide) (fun q26 => ?_) (fun q26 => ?_)
    · -- taken: 36
      refine lv_iconst (v := nI 1) hx hb d_p6m17_36 (by decide) ?_
      refine lv_goto (tgt := 41) hx hb d_p6m17_37 (by decide) ?_
      refine W.eq (g2 := F0 m 41 ls [.int (pd_b true)]) rfl ?_
      exact pd_zret (v := true) X w ⟨(decide_eq_true (Or.inr (Or.inl (of_decide_eq_true (e25.symm.trans q26))))).symm, rfl⟩ (by decide) (by decide) d_p6m17_41
    · -- not taken: 18
      refine lv_aload_n hx hb d_p6m17_18 rfl (lv_at hl 0 rfl) ?_
      refine pd_ldc X (List.mem_of_getElem? (i := 10) rfl) d_p6m17_19 ?_
      have L27 : pd_Str h (G.2.2.2 50) [115, 110] := pd_litS X w 10 (by decide)
      obtain ⟨v28, g29, f30, f31, gf32, gc33, gl34⟩ := id L27
      refine pd_cV (a := a) (As := [.ref (G.2.2.2 50)]) (rest := []) X w hv1 rfl (c_String_equals l G h (by assumption) (by assumption)) ok_String_equals ⟨mT_613, mT_614⟩ mT_644 ⟨by decide, by decide⟩ rfl hl.1 rfl (Nat.le_of_ble_eq_true rfl) d_p6m17_21 ⟨by decide, by decide⟩ (fun r35 h36 H locs hp37 w => ?_)
      refine W.widen (k := 0) (n := 0) (by decide) (by decide) ?_
      obtain ⟨e38, rfl⟩ := hp37
      refine pd_bne (tgt := 36) hx hb d_p6m17_24 (by decide) (fun q39 => ?_) (fun q39 => ?_)
      · -- taken: 36
        refine lv_iconst (v := nI 1) hx hb d_p6m17_36 (by decide) ?_
        refine lv_goto (tgt := 41) hx hb d_p6m17_37 (by decide) ?_
        refine W.eq (g2 := F0 m 41 ls [.int (pd_b true)]) rfl ?_
        exact pd_zret (v := true) X w ⟨(decide_eq_true (Or.inr (Or.inr (Or.inl (of_decide_eq_true (e38.symm.trans q39)))))).symm, rfl⟩ (by decide) (by decide) d_p6m17_41
      · -- not taken: 27
        refine lv_aload_n hx hb d_p6m17_27 rfl (lv_at hl 0 rfl) ?_
        refine pd_ldc X (List.mem_of_getElem? (i := 11) rfl) d_p6m17_28 ?_
        have L40 : pd_Str h (G.2.2.2 51) [110, 115] := pd_litS X w 11 (by decide)
        obtain ⟨v41, g42, f43, f44, gf45, gc46, gl47⟩ := id L40
        refine pd_cV (a := a) (As := [.ref (G.2.2.2 51)]) (rest := []) X w hv1 rfl (c_String_equals l G h (by assumption) (by assumption)) ok_String_equals ⟨mT_613, mT_614⟩ mT_644 ⟨by decide, by decide⟩ rfl hl.1 rfl (Nat.le_of_ble_eq_true rfl) d_p6m17_30 ⟨by decide, by decide⟩ (fun r48 h49 H locs hp50 w => ?_)
        refine W.widen (k := 0) (n := 0) (by decide) (by decide) ?_
        obtain ⟨e51, rfl⟩ := hp50
        refine pd_beq (tgt := 40) hx hb d_p6m17_33 (by decide) (fun q52 => ?_) (fun q52 => ?_)
        · -- taken: 40
          refine lv_iconst (v := nI 0) hx hb d_p6m17_40 (by decide) ?_
          refine W.eq (g2 := F0 m 41 ls [.int (pd_b false)]) rfl ?_
          exact pd_zret (v := false) X w ⟨(decide_eq_false (fun z => by rcases z with z | z | z | z; exact of_decide_eq_false (e12.symm.trans q13) z; exact of_decide_eq_false (e25.symm.trans q26) z; exact of_decide_eq_false (e38.symm.trans q39) z; exact of_decide_eq_false (e51.symm.trans q52) z)).symm, rfl⟩ (by decide) (by decide) d_p6m17_41
        · -- not taken: 36
          refine lv_iconst (v := nI 1) hx hb d_p6m17_36 (by decide) ?_
          refine lv_goto (tgt := 41) hx hb d_p6m17_37 (by decide) ?_
          refine W.eq (g2 := F0 m 41 ls [.int (pd_b true)]) rfl ?_
          exact pd_zret (v := true) X w ⟨(decide_eq_true (Or.inr (Or.inr (Or.inr (of_decide_eq_true (e51.symm.trans q52)))))).symm, rfl⟩ (by decide) (by decide) d_p6m17_41
theorem d_p6m18_0 : decode prog_6_method_18_code 0 = .ok (.aload_n 0, 1) := by decide +kernel
theorem d_p6m18_1 : decode prog_6_method_18_code 1 = .ok (.bipush 115, 2) := by decide +kernel
theorem d_p6m18_3 : decode prog_6_method_18_code 3 = .ok (.invokevirtual 84, 3) := by decide +kernel
theorem d_p6m18_6 : decode prog_6_method_18_code 6 = .ok (.ifCond .ge 7, 3) := by decide +kernel
theorem d_p6m18_9 : decode prog_6_method_18_code 9 = .ok (.iconst 0, 1) := by decide +kernel
theorem d_p6m18_10 : decode prog_6_method_18_code 10 = .ok (.goto 4, 3) := by decide +kernel
theorem d_p6m18_13 : decode prog_6_method_18_code 13 = .ok (.iconst 1, 1) := by decide +kernel
theorem d_p6m18_14 : decode prog_6_method_18_code 14 = .ok (.aload_n 0, 1) := by decide +kernel
theorem d_p6m18_15 : decode prog_6_method_18_code 15 = .ok (.bipush 110, 2) := by decide +kernel
theorem d_p6m18_17 : decode prog_6_method_18_code 17 = .ok (.invokevirtual 84, 3) := by decide +kernel
theorem d_p6m18_20 : decode prog_6_method_18_code 20 = .ok (.ifCond .ge 7, 3) := by decide +kernel
theorem d_p6m18_23 : decode prog_6_method_18_code 23 = .ok (.iconst 0, 1) := by decide +kernel
theorem d_p6m18_24 : decode prog_6_method_18_code 24 = .ok (.goto 4, 3) := by decide +kernel
theorem d_p6m18_27 : decode prog_6_method_18_code 27 = .ok (.iconst 2, 1) := by decide +kernel
theorem d_p6m18_28 : decode prog_6_method_18_code 28 = .ok (.iadd, 1) := by decide +kernel
theorem d_p6m18_29 : decode prog_6_method_18_code 29 = .ok (.ireturn, 1) := by decide +kernel
abbrev y_Grammar_marksOf : MethodName := ⟨"PolicyDesk$Grammar", "marksOf", "(Ljava/lang/String;)I"⟩
theorem ok_Grammar_marksOf : pd_ok y_Grammar_marksOf prog_6_method_18_code 1 (some .int) 1 := ⟨mT_800, mT_25, by decide, by decide +kernel⟩
abbrev rm_Grammar_marksOf : Room := { frames := 4, cells := 0, slots := 0, locals := 91 }
set_option maxHeartbeats 4000000 in
set_option maxRecDepth 100000 in
theorem c_Grammar_marksOf (l : Launch) (G : pd_G) (h : pd_H) {a : Nat} {cs : List Nat} (hS : pd_Str h a cs) : pd_M l y_Grammar_marksOf prog_6_method_18_code 1 (some .int) rm_Grammar_marksOf G h [.ref a] pd_vn (fun r h1 => r = gr_mk cs ∧ h = h1) := by
  refine pd_M.of (by decide) (Nat.le_of_ble_eq_true rfl) ?_
  intro p e s m below meth c X hmn w ls hl
  have hx := X.1
  have hb := X.2.1
  have hl : lv_has ls 1 [(0, .ref a)] := hl
  obtain ⟨v1, f1, hv1, hv2, hvf, hvc, hvl⟩ := id hS
  refine lv_aload_n hx hb d_p6m18_0 rfl (lv_at hl 0 rfl) ?_
  refine lv_bipush (v := nI 115) hx hb d_p6m18_1 (by decide) ?_
  refine pd_cV (a := a) (As := [.int (nI 115)]) (rest := []) X w hv1 rfl (c_String_indexOf l G h (by assumption) (by omega)) ok_String_indexOf ⟨mT_652, mT_653⟩ mT_651 ⟨by decide, by decide⟩ rfl hl.1 rfl (Nat.le_of_ble_eq_true rfl) d_p6m18_3 ⟨by decide, by decide⟩ (fun r1 h2 H locs hp3 w => ?_)
  refine W.widen (k := 0) (n := 0) (by decide) (by decide) ?_
  obtain ⟨e4, rfl⟩ := hp3
  refine pd_mge (tgt := 13) hx hb d_p6m18_6 (by decide) (fun x hx => by have z := tx_ix_lt (e4.symm.trans hx); (try simp at z); omega) (fun q5 => ?_) (fun j6 q5 => ?_)
  · -- none: 9
    rw [q5] at e4
    refine lv_iconst (v := nI 0) hx hb d_p6m18_9 (by decide) ?_
    refine lv_goto (tgt := 14) hx hb d_p6m18_10 (by decide) ?_
    refine lv_aload_n hx hb d_p6m18_14 rfl (lv_at hl 0 rfl) ?_
    refine lv_bipush (v := nI 110) hx hb d_p6m18_15 (by decide) ?_
    refine pd_cV (a := a) (As := [.int (nI 110)]) (rest := [.int (nI 0)]) X w hv1 rfl (c_String_indexOf l G h (by assumption) (by omega)) ok_String_indexOf ⟨mT_652, mT_653⟩ mT_651 ⟨by decide, by decide⟩ rfl hl.1 rfl (Nat.le_of_ble_eq_true rfl) d_p6m18_17 ⟨by decide, by decide⟩ (fun r7 h8 H locs hp9 w => ?_)
    refine W.widen (k := 0) (n := 0) (by decide) (by decide) ?_
    obtain ⟨e10, rfl⟩ := hp9
    refine pd_mge (tgt := 27) hx hb d_p6m18_20 (by decide) (fun x hx => by have z := tx_ix_lt (e10.symm.trans hx); (try simp at z); omega) (fun q11 => ?_) (fun j12 q11 => ?_)
    · -- none: 23
      rw [q11] at e10
      refine lv_iconst (v := nI 0) hx hb d_p6m18_23 (by decide) ?_
      refine lv_goto (tgt := 28) hx hb d_p6m18_24 (by decide) ?_
      refine pd_iadd hx hb d_p6m18_28 ?_
      exact pd_nret (v := (0 + 0)) X w ⟨by unfold gr_mk; rw [← e4, ← e10], rfl⟩ (by decide) (by decide) d_p6m18_29
    · -- some: 27
      rw [q11] at e10
      have j12lt := tx_ix_lt e10.symm
      refine lv_iconst (v := nI 2) hx hb d_p6m18_27 (by decide) ?_
      refine pd_iadd hx hb d_p6m18_28 ?_
      exact pd_nret (v := (0 + 2)) X w ⟨by unfold gr_mk; rw [← e4, ← e10], rfl⟩ (by decide) (by decide) d_p6m18_29
  · -- some: 13
    rw [q5] at e4
    have j6lt := tx_ix_lt e4.symm
    refine lv_iconst (v := nI 1) hx hb d_p6m18_13 (by decide) ?_
    refine lv_aload_n hx hb d_p6m18_14 rfl (lv_at hl 0 rfl) ?_
    refine lv_bipush (v := nI 110) hx hb d_p6m18_15 (by decide) ?_
    refine pd_cV (a := a) (As := [.int (nI 110)]) (rest := [.int (nI 1)]) X w hv1 rfl (c_String_indexOf l G h (by assumption) (by omega)) ok_String_indexOf ⟨mT_652, mT_653⟩ mT_651 ⟨by decide, by decide⟩ rfl hl.1 rfl (Nat.le_of_ble_eq_true rfl) d_p6m18_17 ⟨by decide, by decide⟩ (fun r13 h14 H locs hp15 w => ?_)
    refine W.widen (k := 0) (n := 0) (by decide) (by decide) ?_
    obtain ⟨e16, rfl⟩ := hp15
    refine pd_mge (tgt := 27) hx hb d_p6m18_20 (by decide) (fun x hx => by have z := tx_ix_lt (e16.symm.trans hx); (try simp at z); omega) (fun q17 => ?_) (fun j18 q17 => ?_)
    · -- none: 23
      rw [q17] at e16
      refine lv_iconst (v := nI 0) hx hb d_p6m18_23 (by decide) ?_
      refine lv_goto (tgt := 28) hx hb d_p6m18_24 (by decide) ?_
      refine pd_iadd hx hb d_p6m18_28 ?_
      exact pd_nret (v := (1 + 0)) X w ⟨by unfold gr_mk; rw [← e4, ← e16], rfl⟩ (by decide) (by decide) d_p6m18_29
    · -- some: 27
      rw [q17] at e16
      have j18lt := tx_ix_lt e16.symm
      refine lv_iconst (v := nI 2) hx hb d_p6m18_27 (by decide) ?_
      refine pd_iadd hx hb d_p6m18_28 ?_
      exact pd_nret (v := (1 + 2)) X w ⟨by unfold gr_mk; rw [← e4, ← e16], rfl⟩ (by decide) (by decide) d_p6m18_29
def gr_dg (x : Nat) : Bool := decide (48 ≤ x ∧ x ≤ 57)
def gr_cost (cs : List Nat) : Bool := decide (¬ cs.length = 0 ∧ cs.length ≤ 3 ∧ ¬ (1 < cs.length ∧ cs.getD 0 0 = 48)) && cs.all gr_dg
theorem gr_cost_f1 {cs : List Nat} (q : ¬ (¬ cs.length = 0 ∧ cs.length ≤ 3 ∧ ¬ (1 < cs.length ∧ cs.getD 0 0 = 48))) : gr_cost cs = false := by
  unfold gr_cost
  rw [decide_eq_false q]
  rfl
theorem gr_cost_f2 {cs : List Nat} {i : Nat} (hi : i < cs.length) (q : ¬ (48 ≤ cs.getD i 0 ∧ cs.getD i 0 ≤ 57)) : gr_cost cs = false := by
  unfold gr_cost
  rw [Bool.and_eq_false_iff]
  refine Or.inr (List.all_eq_false.mpr ⟨_, tx_mem hi, ?_⟩)
  unfold gr_dg
  rw [decide_eq_false q]
  decide
theorem tx_all {cs : List Nat} {g : Nat → Bool} (q : ∀ j, j < cs.length → g (cs.getD j 0) = true) : cs.all g = true := by
  rw [List.all_eq_true]
  intro x hx
  obtain ⟨j, hj, rfl⟩ := List.mem_iff_getElem.mp hx
  have := q j hj
  rwa [List.getD_eq_getElem?_getD, List.getElem?_eq_getElem hj] at this
theorem gr_cost_t {cs : List Nat} (q : ¬ cs.length = 0 ∧ cs.length ≤ 3 ∧ ¬ (1 < cs.length ∧ cs.getD 0 0 = 48)) (h : ∀ j, j < cs.length → gr_dg (cs.getD j 0) = true) : gr_cost cs = true := by
  unfold gr_cost
  rw [decide_eq_true q, tx_all h]
  rfl
/-- the number that the digits say -/
def gr_val : List Nat → Nat → Nat
  | [], v => v
  | x :: t, v => gr_val t (v * 10 + x - 48)
def gr_num (cs : List Nat) : Nat := gr_val cs 0
theorem d_p6m19_0 : decode prog_6_method_19_code 0 = .ok (.aload_n 0, 1) := by decide +kernel
theorem d_p6m19_1 : decode prog_6_method_19_code 1 = .ok (.invokevirtual 80, 3) := by decide +kernel
theorem d_p6m19_4 : decode prog_6_method_19_code 4 = .ok (.ifCond .ne 29, 3) := by decide +kernel
theorem d_p6m19_7 : decode prog_6_method_19_code 7 = .ok (.aload_n 0, 1) := by decide +kernel
theorem d_p6m19_8 : decode prog_6_method_19_code 8 = .ok (.invokevirtual 69, 3) := by decide +kernel
theorem d_p6m19_11 : decode prog_6_method_19_code 11 = .ok (.iconst 3, 1) := by decide +kernel
theorem d_p6m19_12 : decode prog_6_method_19_code 12 = .ok (.if_icmp .gt 21, 3) := by decide +kernel
theorem d_p6m19_15 : decode prog_6_method_19_code 15 = .ok (.aload_n 0, 1) := by decide +kernel
theorem d_p6m19_16 : decode prog_6_method_19_code 16 = .ok (.invokevirtual 69, 3) := by decide +kernel
theorem d_p6m19_19 : decode prog_6_method_19_code 19 = .ok (.iconst 1, 1) := by decide +kernel
theorem d_p6m19_20 : decode prog_6_method_19_code 20 = .ok (.if_icmp .le 15, 3) := by decide +kernel
theorem d_p6m19_23 : decode prog_6_method_19_code 23 = .ok (.aload_n 0, 1) := by decide +kernel
theorem d_p6m19_24 : decode prog_6_method_19_code 24 = .ok (.iconst 0, 1) := by decide +kernel
theorem d_p6m19_25 : decode prog_6_method_19_code 25 = .ok (.invokevirtual 72, 3) := by decide +kernel
theorem d_p6m19_28 : decode prog_6_method_19_code 28 = .ok (.bipush 48, 2) := by decide +kernel
theorem d_p6m19_30 : decode prog_6_method_19_code 30 = .ok (.if_icmp .ne 5, 3) := by decide +kernel
theorem d_p6m19_33 : decode prog_6_method_19_code 33 = .ok (.iconst 0, 1) := by decide +kernel
theorem d_p6m19_34 : decode prog_6_method_19_code 34 = .ok (.ireturn, 1) := by decide +kernel
theorem d_p6m19_35 : decode prog_6_method_19_code 35 = .ok (.iconst 0, 1) := by decide +kernel
theorem d_p6m19_36 : decode prog_6_method_19_code 36 = .ok (.istore_n 1, 1) := by decide +kernel
theorem d_p6m19_37 : decode prog_6_method_19_code 37 = .ok (.iload_n 1, 1) := by decide +kernel
theorem d_p6m19_38 : decode prog_6_method_19_code 38 = .ok (.aload_n 0, 1) := by decide +kernel
theorem d_p6m19_39 : decode prog_6_method_19_code 39 = .ok (.invokevirtual 69, 3) := by decide +kernel
theorem d_p6m19_42 : decode prog_6_method_19_code 42 = .ok (.if_icmp .ge 31, 3) := by decide +kernel
theorem d_p6m19_45 : decode prog_6_method_19_code 45 = .ok (.aload_n 0, 1) := by decide +kernel
theorem d_p6m19_46 : decode prog_6_method_19_code 46 = .ok (.iload_n 1, 1) := by decide +kernel
theorem d_p6m19_47 : decode prog_6_method_19_code 47 = .ok (.invokevirtual 72, 3) := by decide +kernel
theorem d_p6m19_50 : decode prog_6_method_19_code 50 = .ok (.bipush 48, 2) := by decide +kernel
theorem d_p6m19_52 : decode prog_6_method_19_code 52 = .ok (.if_icmp .lt 13, 3) := by decide +kernel
theorem d_p6m19_55 : decode prog_6_method_19_code 55 = .ok (.aload_n 0, 1) := by decide +kernel
theorem d_p6m19_56 : decode prog_6_method_19_code 56 = .ok (.iload_n 1, 1) := by decide +kernel
theorem d_p6m19_57 : decode prog_6_method_19_code 57 = .ok (.invokevirtual 72, 3) := by decide +kernel
theorem d_p6m19_60 : decode prog_6_method_19_code 60 = .ok (.bipush 57, 2) := by decide +kernel
theorem d_p6m19_62 : decode prog_6_method_19_code 62 = .ok (.if_icmp .le 5, 3) := by decide +kernel
theorem d_p6m19_65 : decode prog_6_method_19_code 65 = .ok (.iconst 0, 1) := by decide +kernel
theorem d_p6m19_66 : decode prog_6_method_19_code 66 = .ok (.ireturn, 1) := by decide +kernel
theorem d_p6m19_67 : decode prog_6_method_19_code 67 = .ok (.iinc 1 1, 3) := by decide +kernel
theorem d_p6m19_70 : decode prog_6_method_19_code 70 = .ok (.goto (-33), 3) := by decide +kernel
theorem d_p6m19_73 : decode prog_6_method_19_code 73 = .ok (.iconst 1, 1) := by decide +kernel
theorem d_p6m19_74 : decode prog_6_method_19_code 74 = .ok (.ireturn, 1) := by decide +kernel
abbrev y_Grammar_isCost : MethodName := ⟨"PolicyDesk$Grammar", "isCost", "(Ljava/lang/String;)Z"⟩
theorem ok_Grammar_isCost : pd_ok y_Grammar_isCost prog_6_method_19_code 2 (some .boolean) 1 := ⟨mT_765, mT_25, by decide, by decide +kernel⟩
abbrev rm_Grammar_isCost : Room := { frames := 4, cells := 0, slots := 0, locals := 85 }
set_option maxHeartbeats 4000000 in
set_option maxRecDepth 100000 in
theorem lp_Grammar_isCost_37 (l : Launch) (G : pd_G) (h : pd_H) {a : Nat} {cs : List Nat} (hS : pd_Str h a cs) {p : Program} {e : Env} {s : State} {m : MethodId} {below : List Frame} {meth : Method} {c : Code} (X : pd_B p s m [.ref a].toArray meth c G y_Grammar_isCost.cls prog_6_method_19_code 2 (some .boolean)) (hmn : meth.name = y_Grammar_isCost.name) :
    ∀ (kk9 : Nat) (i : Nat), (i ≤ cs.length) → (¬ cs.length = 0 ∧ cs.length ≤ 3 ∧ ¬ (1 < cs.length ∧ cs.getD 0 0 = 48)) → (∀ j, j < i → gr_dg (cs.getD j 0) = true) → cs.length - i < kk9 → ∀ (H : Heap) (locs : List Loc), pd_w G s H locs h → ∀ ls : Array Slot, lv_has ls 2 [(1, .int (nI i)), (0, .ref a)] → W p l e rm_Grammar_isCost s m [.ref a].toArray below meth c H locs 0 0 (MQ below (pd_Q G pd_vb (fun r h1 => r = gr_cost cs ∧ h = h1)) [.ref a].toArray s rm_Grammar_isCost.cells rm_Grammar_isCost.slots (fun q => G.2.1 ≤ q)) (F0 m 37 ls []) := by
  have hx := X.1
  have hb := X.2.1
  obtain ⟨v1, f1, hv1, hv2, hvf, hvc, hvl⟩ := id hS
  intro kk9
  induction kk9 with
  | zero => intros; omega
  | succ kk9 ih =>
    intro i hi hg hj hmu H locs w ls hl
    refine lv_iload_n hx hb d_p6m19_37 rfl (lv_at hl 0 rfl) ?_
    refine lv_aload_n hx hb d_p6m19_38 rfl (lv_at hl 1 rfl) ?_
    refine pd_cV (a := a) (As := []) (rest := [.int (nI i)]) X w hv1 rfl (c_String_length l G h (by assumption)) ok_String_length ⟨mT_93, mT_94⟩ mT_638 ⟨by decide, by decide⟩ rfl hl.1 rfl (Nat.le_of_ble_eq_true rfl) d_p6m19_39 ⟨by decide, by decide⟩ (fun r1 h2 H locs hp3 w => ?_)
    refine W.widen (k := 0) (n := 0) (by decide) (by decide) ?_
    obtain ⟨e4, rfl⟩ := hp3
    refine pd_jge (tgt := 73) hx hb d_p6m19_42 (by decide) (by omega) (by omega) (fun q5 => ?_) (fun q5 => ?_)
    · -- taken: 73
      refine lv_iconst (v := nI 1) hx hb d_p6m19_73 (by decide) ?_
      refine W.eq (g2 := F0 m 74 ls [.int (pd_b true)]) rfl ?_
      exact pd_zret (v := true) X w ⟨(gr_cost_t hg (fun j hj2 => hj j (by omega))).symm, rfl⟩ (by decide) (by decide) d_p6m19_74
    · -- not taken: 45
      refine lv_aload_n hx hb d_p6m19_45 rfl (lv_at hl 1 rfl) ?_
      refine lv_iload_n hx hb d_p6m19_46 rfl (lv_at hl 0 rfl) ?_
      refine pd_cV (a := a) (As := [.int (nI i)]) (rest := []) X w hv1 rfl (c_String_charAt l G h (by assumption) (by omega)) ok_String_charAt ⟨mT_102, mT_103⟩ mT_639 ⟨by decide, by decide⟩ rfl hl.1 rfl (Nat.le_of_ble_eq_true rfl) d_p6m19_47 ⟨by decide, by decide⟩ (fun r6 h7 H locs hp8 w => ?_)
      refine W.widen (k := 0) (n := 0) (by decide) (by decide) ?_
      obtain ⟨e9, lt10, rfl⟩ := hp8
      refine lv_bipush (v := nI 48) hx hb d_p6m19_50 (by decide) ?_
      refine pd_jlt (tgt := 65) hx hb d_p6m19_52 (by decide) (by omega) (by omega) (fun q11 => ?_) (fun q11 => ?_)
      · -- taken: 65
        refine lv_iconst (v := nI 0) hx hb d_p6m19_65 (by decide) ?_
        refine W.eq (g2 := F0 m 66 ls [.int (pd_b false)]) rfl ?_
        exact pd_zret (v := false) X w ⟨(gr_cost_f2 (i := i) (by omega) (by omega)).symm, rfl⟩ (by decide) (by decide) d_p6m19_66
      · -- not taken: 55
        refine lv_aload_n hx hb d_p6m19_55 rfl (lv_at hl 1 rfl) ?_
        refine lv_iload_n hx hb d_p6m19_56 rfl (lv_at hl 0 rfl) ?_
        refine pd_cV (a := a) (As := [.int (nI i)]) (rest := []) X w hv1 rfl (c_String_charAt l G h (by assumption) (by omega)) ok_String_charAt ⟨mT_102, mT_103⟩ mT_639 ⟨by decide, by decide⟩ rfl hl.1 rfl (Nat.le_of_ble_eq_true rfl) d_p6m19_57 ⟨by decide, by decide⟩ (fun r12 h13 H locs hp14 w => ?_)
        refine W.widen (k := 0) (n := 0) (by decide) (by decide) ?_
        obtain ⟨e15, lt16, rfl⟩ := hp14
        refine lv_bipush (v := nI 57) hx hb d_p6m19_60 (by decide) ?_
        refine pd_jle (tgt := 67) hx hb d_p6m19_62 (by decide) (by omega) (by omega) (fun q17 => ?_) (fun q17 => ?_)
        · -- taken: 67
          refine pd_iinc (k := 0) (d := 1) (lv' := [(1, .int (nI (i + 1))), (0, .ref a)]) hx hb d_p6m19_67 (by decide) hl rfl (by decide) rfl (fun ls hl => ?_)
          refine lv_goto (tgt := 37) hx hb d_p6m19_70 (by decide) ?_
          exact ih (i + 1) (by omega) (hg) (lt_s hj (decide_eq_true (by omega))) (by omega) _ _ w ls (lv_sub hl [0, 1] rfl)
        · -- not taken: 65
          refine lv_iconst (v := nI 0) hx hb d_p6m19_65 (by decide) ?_
          refine W.eq (g2 := F0 m 66 ls [.int (pd_b false)]) rfl ?_
          exact pd_zret (v := false) X w ⟨(gr_cost_f2 (i := i) (by omega) (by omega)).symm, rfl⟩ (by decide) (by decide) d_p6m19_66
set_option maxHeartbeats 4000000 in
set_option maxRecDepth 100000 in
theorem c_Grammar_isCost (l : Launch) (G : pd_G) (h : pd_H) {a : Nat} {cs : List Nat} (hS : pd_Str h a cs) : pd_M l y_Grammar_isCost prog_6_method_19_code 2 (some .boolean) rm_Grammar_isCost G h [.ref a] pd_vb (fun r h1 => r = gr_cost cs ∧ h = h1) := by
  refine pd_M.of (by decide) (Nat.le_of_ble_eq_true rfl) ?_
  intro p e s m below meth c X hmn w ls hl
  have hx := X.1
  have hb := X.2.1
  have hl : lv_has ls 2 [(0, .ref a)] := hl
  obtain ⟨v1, f1, hv1, hv2, hvf, hvc, hvl⟩ := id hS
  refine lv_aload_n hx hb d_p6m19_0 rfl (lv_at hl 0 rfl) ?_
  refine pd_cV (a := a) (As := []) (rest := []) X w hv1 rfl (c_String_isEmpty l G h (by assumption)) ok_String_isEmpty ⟨mT_710, mT_711⟩ mT_709 ⟨by decide, by decide⟩ rfl hl.1 rfl (Nat.le_of_ble_eq_true rfl) d_p6m19_1 ⟨by decide, by decide⟩ (fun r1 h2 H locs hp3 w => ?_)
  refine W.widen (k := 0) (n := 0) (by decide) (by decide) ?_
  obtain ⟨e4, rfl⟩ := hp3
  refine pd_bne (tgt := 33) hx hb d_p6m19_4 (by decide) (fun q5 => ?_) (fun q5 => ?_)
  · -- taken: 33
    refine lv_iconst (v := nI 0) hx hb d_p6m19_33 (by decide) ?_
    refine W.eq (g2 := F0 m 34 ls [.int (pd_b false)]) rfl ?_
    exact pd_zret (v := false) X w ⟨(gr_cost_f1 (fun z => by simp_all <;> omega)).symm, rfl⟩ (by decide) (by decide) d_p6m19_34
  · -- not taken: 7
    refine lv_aload_n hx hb d_p6m19_7 rfl (lv_at hl 0 rfl) ?_
    refine pd_cV (a := a) (As := []) (rest := []) X w hv1 rfl (c_String_length l G h (by assumption)) ok_String_length ⟨mT_93, mT_94⟩ mT_638 ⟨by decide, by decide⟩ rfl hl.1 rfl (Nat.le_of_ble_eq_true rfl) d_p6m19_8 ⟨by decide, by decide⟩ (fun r6 h7 H locs hp8 w => ?_)
    refine W.widen (k := 0) (n := 0) (by decide) (by decide) ?_
    obtain ⟨e9, rfl⟩ := hp8
    refine lv_iconst (v := nI 3) hx hb d_p6m19_11 (by decide) ?_
    refine pd_jgt (tgt := 33) hx hb d_p6m19_12 (by decide) (by omega) (by omega) (fun q10 => ?_) (fun q10 => ?_)
    · -- taken: 33
      refine lv_iconst (v := nI 0) hx hb d_p6m19_33 (by decide) ?_
      refine W.eq (g2 := F0 m 34 ls [.int (pd_b false)]) rfl ?_
      exact pd_zret (v := false) X w ⟨(gr_cost_f1 (fun z => by simp_all <;> omega)).symm, rfl⟩ (by decide) (by decide) d_p6m19_34
    · -- not taken: 15
      refine lv_aload_n hx hb d_p6m19_15 rfl (lv_at hl 0 rfl) ?_
      refine pd_cV (a := a) (As := []) (rest := []) X w hv1 rfl (c_String_length l G h (by assumption)) ok_String_length ⟨mT_93, mT_94⟩ mT_638 ⟨by decide, by decide⟩ rfl hl.1 rfl (Nat.le_of_ble_eq_true rfl) d_p6m19_16 ⟨by decide, by decide⟩ (fun r11 h12 H locs hp13 w => ?_)
      refine W.widen (k := 0) (n := 0) (by decide) (by decide) ?_
      obtain ⟨e14, rfl⟩ := hp13
      refine lv_iconst (v := nI 1) hx hb d_p6m19_19 (by decide) ?_
      refine pd_jle (tgt := 35) hx hb d_p6m19_20 (by decide) (by omega) (by omega) (fun q15 => ?_) (fun q15 => ?_)
      · -- taken: 35
        refine lv_iconst (v := nI 0) hx hb d_p6m19_35 (by decide) ?_
        refine lv_istore_n (lv' := [(1, .int (nI 0)), (0, .ref a)]) hx hb d_p6m19_36 rfl hl (by decide) rfl (fun ls hl => ?_)
        exact lp_Grammar_isCost_37 l G h hS X hmn (cs.length + 1) 0 (by omega) (by simp_all <;> omega) (by intro j hj; omega) (by omega) _ _ w ls (lv_sub hl [0, 1] rfl)
      · -- not taken: 23
        refine lv_aload_n hx hb d_p6m19_23 rfl (lv_at hl 0 rfl) ?_
        refine lv_iconst (v := nI 0) hx hb d_p6m19_24 (by decide) ?_
        refine pd_cV (a := a) (As := [.int (nI 0)]) (rest := []) X w hv1 rfl (c_String_charAt l G h (by assumption) (by omega)) ok_String_charAt ⟨mT_102, mT_103⟩ mT_639 ⟨by decide, by decide⟩ rfl hl.1 rfl (Nat.le_of_ble_eq_true rfl) d_p6m19_25 ⟨by decide, by decide⟩ (fun r16 h17 H locs hp18 w => ?_)
        refine W.widen (k := 0) (n := 0) (by decide) (by decide) ?_
        obtain ⟨e19, lt20, rfl⟩ := hp18
        refine lv_bipush (v := nI 48) hx hb d_p6m19_28 (by decide) ?_
        refine pd_jne (tgt := 35) hx hb d_p6m19_30 (by decide) (by omega) (by omega) (fun q21 => ?_) (fun q21 => ?_)
        · -- taken: 35
          refine lv_iconst (v := nI 0) hx hb d_p6m19_35 (by decide) ?_
          refine lv_istore_n (lv' := [(1, .int (nI 0)), (0, .ref a)]) hx hb d_p6m19_36 rfl hl (by decide) rfl (fun ls hl => ?_)
          exact lp_Grammar_isCost_37 l G h hS X hmn (cs.length + 1) 0 (by omega) (by simp_all <;> omega) (by intro j hj; omega) (by omega) _ _ w ls (lv_sub hl [0, 1] rfl)
        · -- not taken: 33
          refine lv_iconst (v := nI 0) hx hb d_p6m19_33 (by decide) ?_
          refine W.eq (g2 := F0 m 34 ls [.int (pd_b false)]) rfl ?_
          exact pd_zret (v := false) X w ⟨(gr_cost_f1 (fun z => by simp_all <;> omega)).symm, rfl⟩ (by decide) (by decide) d_p6m19_34
theorem gr_val_s {cs : List Nat} {i v x : Nat} (hi : i < cs.length) (hx : x = cs.getD i 0) (_ : 0 ≤ v) : gr_val (cs.drop i) v = gr_val (cs.drop (i + 1)) (v * 10 + x - 48) := by
  rw [tx_drop hi, gr_val, hx]
theorem gr_val_e {cs : List Nat} {i v : Nat} (hi : cs.length ≤ i) : gr_val (cs.drop i) v = v := by
  rw [List.drop_eq_nil_of_le hi]
  rfl
theorem d_p6m20_0 : decode prog_6_method_20_code 0 = .ok (.iconst 0, 1) := by decide +kernel
theorem d_p6m20_1 : decode prog_6_method_20_code 1 = .ok (.istore_n 1, 1) := by decide +kernel
theorem d_p6m20_2 : decode prog_6_method_20_code 2 = .ok (.iconst 0, 1) := by decide +kernel
theorem d_p6m20_3 : decode prog_6_method_20_code 3 = .ok (.istore_n 2, 1) := by decide +kernel
theorem d_p6m20_4 : decode prog_6_method_20_code 4 = .ok (.iload_n 2, 1) := by decide +kernel
theorem d_p6m20_5 : decode prog_6_method_20_code 5 = .ok (.aload_n 0, 1) := by decide +kernel
theorem d_p6m20_6 : decode prog_6_method_20_code 6 = .ok (.invokevirtual 69, 3) := by decide +kernel
theorem d_p6m20_9 : decode prog_6_method_20_code 9 = .ok (.if_icmp .ge 23, 3) := by decide +kernel
theorem d_p6m20_12 : decode prog_6_method_20_code 12 = .ok (.iload_n 1, 1) := by decide +kernel
theorem d_p6m20_13 : decode prog_6_method_20_code 13 = .ok (.bipush 10, 2) := by decide +kernel
theorem d_p6m20_15 : decode prog_6_method_20_code 15 = .ok (.imul, 1) := by decide +kernel
theorem d_p6m20_16 : decode prog_6_method_20_code 16 = .ok (.aload_n 0, 1) := by decide +kernel
theorem d_p6m20_17 : decode prog_6_method_20_code 17 = .ok (.iload_n 2, 1) := by decide +kernel
theorem d_p6m20_18 : decode prog_6_method_20_code 18 = .ok (.invokevirtual 72, 3) := by decide +kernel
theorem d_p6m20_21 : decode prog_6_method_20_code 21 = .ok (.iadd, 1) := by decide +kernel
theorem d_p6m20_22 : decode prog_6_method_20_code 22 = .ok (.bipush 48, 2) := by decide +kernel
theorem d_p6m20_24 : decode prog_6_method_20_code 24 = .ok (.isub, 1) := by decide +kernel
theorem d_p6m20_25 : decode prog_6_method_20_code 25 = .ok (.istore_n 1, 1) := by decide +kernel
theorem d_p6m20_26 : decode prog_6_method_20_code 26 = .ok (.iinc 2 1, 3) := by decide +kernel
theorem d_p6m20_29 : decode prog_6_method_20_code 29 = .ok (.goto (-25), 3) := by decide +kernel
theorem d_p6m20_32 : decode prog_6_method_20_code 32 = .ok (.iload_n 1, 1) := by decide +kernel
theorem d_p6m20_33 : decode prog_6_method_20_code 33 = .ok (.ireturn, 1) := by decide +kernel
abbrev y_Grammar_costOf : MethodName := ⟨"PolicyDesk$Grammar", "costOf", "(Ljava/lang/String;)I"⟩
theorem ok_Grammar_costOf : pd_ok y_Grammar_costOf prog_6_method_20_code 3 (some .int) 1 := ⟨mT_862, mT_25, by decide, by decide +kernel⟩
abbrev rm_Grammar_costOf : Room := { frames := 4, cells := 0, slots := 0, locals := 85 }
set_option maxHeartbeats 4000000 in
set_option maxRecDepth 100000 in
theorem lp_Grammar_costOf_4 (l : Launch) (G : pd_G) (h : pd_H) {a : Nat} {cs : List Nat} (hS : pd_Str h a cs) (hd : ∀ x ∈ cs, gr_dg x = true) (hl3 : cs.length ≤ 3) {p : Program} {e : Env} {s : State} {m : MethodId} {below : List Frame} {meth : Method} {c : Code} (X : pd_B p s m [.ref a].toArray meth c G y_Grammar_costOf.cls prog_6_method_20_code 3 (some .int)) (hmn : meth.name = y_Grammar_costOf.name) :
    ∀ (kk9 : Nat) (i : Nat) (vv : Nat), (i ≤ cs.length) → (vv < 10 ^ i) → (gr_val (cs.drop i) vv = gr_num cs) → cs.length - i < kk9 → ∀ (H : Heap) (locs : List Loc), pd_w G s H locs h → ∀ ls : Array Slot, lv_has ls 3 [(2, .int (nI i)), (1, .int (nI vv)), (0, .ref a)] → W p l e rm_Grammar_costOf s m [.ref a].toArray below meth c H locs 0 0 (MQ below (pd_Q G pd_vn (fun r h1 => r = gr_num cs ∧ h = h1)) [.ref a].toArray s rm_Grammar_costOf.cells rm_Grammar_costOf.slots (fun q => G.2.1 ≤ q)) (F0 m 4 ls []) := by
  have hx := X.1
  have hb := X.2.1
  obtain ⟨v1, f1, hv1, hv2, hvf, hvc, hvl⟩ := id hS
  intro kk9
  induction kk9 with
  | zero => intros; omega
  | succ kk9 ih =>
    intro i vv hi hb9 hv hmu H locs w ls hl
    refine lv_iload_n hx hb d_p6m20_4 rfl (lv_at hl 0 rfl) ?_
    refine lv_aload_n hx hb d_p6m20_5 rfl (lv_at hl 2 rfl) ?_
    refine pd_cV (a := a) (As := []) (rest := [.int (nI i)]) X w hv1 rfl (c_String_length l G h (by assumption)) ok_String_length ⟨mT_93, mT_94⟩ mT_638 ⟨by decide, by decide⟩ rfl hl.1 rfl (Nat.le_of_ble_eq_true rfl) d_p6m20_6 ⟨by decide, by decide⟩ (fun r1 h2 H locs hp3 w => ?_)
    refine W.widen (k := 0) (n := 0) (by decide) (by decide) ?_
    obtain ⟨e4, rfl⟩ := hp3
    refine pd_jge (tgt := 32) hx hb d_p6m20_9 (by decide) (by omega) (by omega) (fun q5 => ?_) (fun q5 => ?_)
    · -- taken: 32
      refine lv_iload_n hx hb d_p6m20_32 rfl (lv_at hl 1 rfl) ?_
      exact pd_nret (v := vv) X w ⟨((gr_val_e (by omega)).symm.trans hv), rfl⟩ (by decide) (by decide) d_p6m20_33
    · -- not taken: 12
      refine lv_iload_n hx hb d_p6m20_12 rfl (lv_at hl 1 rfl) ?_
      refine lv_bipush (v := nI 10) hx hb d_p6m20_13 (by decide) ?_
      refine pd_imul hx hb d_p6m20_15 ?_
      refine lv_aload_n hx hb d_p6m20_16 rfl (lv_at hl 2 rfl) ?_
      refine lv_iload_n hx hb d_p6m20_17 rfl (lv_at hl 0 rfl) ?_
      refine pd_cV (a := a) (As := [.int (nI i)]) (rest := [.int (nI (vv * 10))]) X w hv1 rfl (c_String_charAt l G h (by assumption) (by omega)) ok_String_charAt ⟨mT_102, mT_103⟩ mT_639 ⟨by decide, by decide⟩ rfl hl.1 rfl (Nat.le_of_ble_eq_true rfl) d_p6m20_18 ⟨by decide, by decide⟩ (fun r6 h7 H locs hp8 w => ?_)
      refine W.widen (k := 0) (n := 0) (by decide) (by decide) ?_
      obtain ⟨e9, lt10, rfl⟩ := hp8
      have hdg := of_decide_eq_true (hd _ (tx_mem (show i < cs.length by omega)))
      refine pd_iadd hx hb d_p6m20_21 ?_
      refine lv_bipush (v := nI 48) hx hb d_p6m20_22 (by decide) ?_
      refine pd_isub hx hb d_p6m20_24 (by omega) ?_
      refine lv_istore_n (lv' := [(1, .int (nI (((vv * 10) + r6) - 48))), (2, .int (nI i)), (0, .ref a)]) hx hb d_p6m20_25 rfl hl (by decide) rfl (fun ls hl => ?_)
      refine pd_iinc (k := 1) (d := 1) (lv' := [(2, .int (nI (i + 1))), (1, .int (nI (((vv * 10) + r6) - 48))), (0, .ref a)]) hx hb d_p6m20_26 (by decide) hl rfl (by decide) rfl (fun ls hl => ?_)
      refine lv_goto (tgt := 4) hx hb d_p6m20_29 (by decide) ?_
      exact ih (i + 1) (((vv * 10) + r6) - 48) (by omega) (by rw [Nat.pow_succ]; omega) ((gr_val_s (by omega) e9 (Nat.zero_le _)).symm.trans hv) (by omega) _ _ w ls (lv_sub hl [0, 1, 2] rfl)
set_option maxHeartbeats 4000000 in
set_option maxRecDepth 100000 in
theorem c_Grammar_costOf (l : Launch) (G : pd_G) (h : pd_H) {a : Nat} {cs : List Nat} (hS : pd_Str h a cs) (hd : ∀ x ∈ cs, gr_dg x = true) (hl3 : cs.length ≤ 3) : pd_M l y_Grammar_costOf prog_6_method_20_code 3 (some .int) rm_Grammar_costOf G h [.ref a] pd_vn (fun r h1 => r = gr_num cs ∧ h = h1) := by
  refine pd_M.of (by decide) (Nat.le_of_ble_eq_true rfl) ?_
  intro p e s m below meth c X hmn w ls hl
  have hx := X.1
  have hb := X.2.1
  have hl : lv_has ls 3 [(0, .ref a)] := hl
  obtain ⟨v1, f1, hv1, hv2, hvf, hvc, hvl⟩ := id hS
  refine lv_iconst (v := nI 0) hx hb d_p6m20_0 (by decide) ?_
  refine lv_istore_n (lv' := [(1, .int (nI 0)), (0, .ref a)]) hx hb d_p6m20_1 rfl hl (by decide) rfl (fun ls hl => ?_)
  refine lv_iconst (v := nI 0) hx hb d_p6m20_2 (by decide) ?_
  refine lv_istore_n (lv' := [(2, .int (nI 0)), (1, .int (nI 0)), (0, .ref a)]) hx hb d_p6m20_3 rfl hl (by decide) rfl (fun ls hl => ?_)
  exact lp_Grammar_costOf_4 l G h hS hd hl3 X hmn (cs.length + 1) 0 0 (by omega) (by decide) (rfl) (by omega) _ _ w ls (lv_sub hl [0, 1, 2] rfl)
def gr_sw (cs ds : List Nat) : Bool := decide (ds.length ≤ cs.length ∧ cs.take ds.length = ds)
theorem gr_sw_f1 {cs ds : List Nat} (q : cs.length < ds.length) : gr_sw cs ds = false := decide_eq_false (fun z => by omega)
theorem gr_take {cs : List Nat} {n j : Nat} (hj : j < n) : (cs.take n).getD j 0 = cs.getD j 0 := by
  rw [List.getD_eq_getElem?_getD, List.getElem?_take, if_pos hj, ← List.getD_eq_getElem?_getD]
theorem gr_sw_f2 {cs ds : List Nat} {i : Nat} (hi : i < ds.length) (q : ¬ cs.getD i 0 = ds.getD i 0) : gr_sw cs ds = false := decide_eq_false (fun z => q (by rw [← gr_take hi, z.2]))
theorem gr_sw_t {cs ds : List Nat} (hl : ds.length ≤ cs.length) (q : ∀ j, j < ds.length → cs.getD j 0 = ds.getD j 0) : gr_sw cs ds = true := decide_eq_true ⟨hl, tx_ext (by rw [List.length_take]; omega) (fun j hj => by rw [List.length_take] at hj; rw [gr_take (by omega)]; exact q j (by omega))⟩
def gr_ew (cs ds : List Nat) : Bool := decide (ds.length ≤ cs.length ∧ cs.drop (cs.length - ds.length) = ds)
theorem d_p6m21_0 : decode prog_6_method_21_code 0 = .ok (.aload_n 0, 1) := by decide +kernel
theorem d_p6m21_1 : decode prog_6_method_21_code 1 = .ok (.invokevirtual 69, 3) := by decide +kernel
theorem d_p6m21_4 : decode prog_6_method_21_code 4 = .ok (.aload_n 1, 1) := by decide +kernel
theorem d_p6m21_5 : decode prog_6_method_21_code 5 = .ok (.invokevirtual 69, 3) := by decide +kernel
theorem d_p6m21_8 : decode prog_6_method_21_code 8 = .ok (.if_icmp .ge 5, 3) := by decide +kernel
theorem d_p6m21_11 : decode prog_6_method_21_code 11 = .ok (.iconst 0, 1) := by decide +kernel
theorem d_p6m21_12 : decode prog_6_method_21_code 12 = .ok (.ireturn, 1) := by decide +kernel
theorem d_p6m21_13 : decode prog_6_method_21_code 13 = .ok (.iconst 0, 1) := by decide +kernel
theorem d_p6m21_14 : decode prog_6_method_21_code 14 = .ok (.istore_n 2, 1) := by decide +kernel
theorem d_p6m21_15 : decode prog_6_method_21_code 15 = .ok (.iload_n 2, 1) := by decide +kernel
theorem d_p6m21_16 : decode prog_6_method_21_code 16 = .ok (.aload_n 1, 1) := by decide +kernel
theorem d_p6m21_17 : decode prog_6_method_21_code 17 = .ok (.invokevirtual 69, 3) := by decide +kernel
theorem d_p6m21_20 : decode prog_6_method_21_code 20 = .ok (.if_icmp .ge 24, 3) := by decide +kernel
theorem d_p6m21_23 : decode prog_6_method_21_code 23 = .ok (.aload_n 0, 1) := by decide +kernel
theorem d_p6m21_24 : decode prog_6_method_21_code 24 = .ok (.iload_n 2, 1) := by decide +kernel
theorem d_p6m21_25 : decode prog_6_method_21_code 25 = .ok (.invokevirtual 72, 3) := by decide +kernel
theorem d_p6m21_28 : decode prog_6_method_21_code 28 = .ok (.aload_n 1, 1) := by decide +kernel
theorem d_p6m21_29 : decode prog_6_method_21_code 29 = .ok (.iload_n 2, 1) := by decide +kernel
theorem d_p6m21_30 : decode prog_6_method_21_code 30 = .ok (.invokevirtual 72, 3) := by decide +kernel
theorem d_p6m21_33 : decode prog_6_method_21_code 33 = .ok (.if_icmp .eq 5, 3) := by decide +kernel
theorem d_p6m21_36 : decode prog_6_method_21_code 36 = .ok (.iconst 0, 1) := by decide +kernel
theorem d_p6m21_37 : decode prog_6_method_21_code 37 = .ok (.ireturn, 1) := by decide +kernel
theorem d_p6m21_38 : decode prog_6_method_21_code 38 = .ok (.iinc 2 1, 3) := by decide +kernel
theorem d_p6m21_41 : decode prog_6_method_21_code 41 = .ok (.goto (-26), 3) := by decide +kernel
theorem d_p6m21_44 : decode prog_6_method_21_code 44 = .ok (.iconst 1, 1) := by decide +kernel
theorem d_p6m21_45 : decode prog_6_method_21_code 45 = .ok (.ireturn, 1) := by decide +kernel
abbrev y_Grammar_startsWith : MethodName := ⟨"PolicyDesk$Grammar", "startsWith", "(Ljava/lang/String;Ljava/lang/String;)Z"⟩
theorem ok_Grammar_startsWith : pd_ok y_Grammar_startsWith prog_6_method_21_code 3 (some .boolean) 2 := ⟨mT_959, mT_25, by decide, by decide +kernel⟩
abbrev rm_Grammar_startsWith : Room := { frames := 4, cells := 0, slots := 0, locals := 85 }
set_option maxHeartbeats 4000000 in
set_option maxRecDepth 100000 in
theorem lp_Grammar_startsWith_15 (l : Launch) (G : pd_G) (h : pd_H) {a : Nat} {cs : List Nat} {a2 : Nat} {ds : List Nat} (hS : pd_Str h a cs) (hS2 : pd_Str h a2 ds) {p : Program} {e : Env} {s : State} {m : MethodId} {below : List Frame} {meth : Method} {c : Code} (X : pd_B p s m [.ref a, .ref a2].toArray meth c G y_Grammar_startsWith.cls prog_6_method_21_code 3 (some .boolean)) (hmn : meth.name = y_Grammar_startsWith.name) :
    ∀ (kk9 : Nat) (i : Nat), (i ≤ ds.length) → (ds.length ≤ cs.length) → (∀ j, j < i → cs.getD j 0 = ds.getD j 0) → ds.length - i < kk9 → ∀ (H : Heap) (locs : List Loc), pd_w G s H locs h → ∀ ls : Array Slot, lv_has ls 3 [(2, .int (nI i)), (0, .ref a), (1, .ref a2)] → W p l e rm_Grammar_startsWith s m [.ref a, .ref a2].toArray below meth c H locs 0 0 (MQ below (pd_Q G pd_vb (fun r h1 => r = gr_sw cs ds ∧ h = h1)) [.ref a, .ref a2].toArray s rm_Grammar_startsWith.cells rm_Grammar_startsWith.slots (fun q => G.2.1 ≤ q)) (F0 m 15 ls []) := by
  have hx := X.1
  have hb := X.2.1
  obtain ⟨v1, f1, hv1, hv2, hvf, hvc, hvl⟩ := id hS
  obtain ⟨v2, f2, hu1, hu2, huf, huc, hul⟩ := id hS2
  intro kk9
  induction kk9 with
  | zero => intros; omega
  | succ kk9 ih =>
    intro i hi hle hj hmu H locs w ls hl
    refine lv_iload_n hx hb d_p6m21_15 rfl (lv_at hl 0 rfl) ?_
    refine lv_aload_n hx hb d_p6m21_16 rfl (lv_at hl 2 rfl) ?_
    refine pd_cV (a := a2) (As := []) (rest := [.int (nI i)]) X w hu1 rfl (c_String_length l G h (by assumption)) ok_String_length ⟨mT_93, mT_94⟩ mT_638 ⟨by decide, by decide⟩ rfl hl.1 rfl (Nat.le_of_ble_eq_true rfl) d_p6m21_17 ⟨by decide, by decide⟩ (fun r1 h2 H locs hp3 w => ?_)
    refine W.widen (k := 0) (n := 0) (by decide) (by decide) ?_
    obtain ⟨e4, rfl⟩ := hp3
    refine pd_jge (tgt := 44) hx hb d_p6m21_20 (by decide) (by omega) (by omega) (fun q5 => ?_) (fun q5 => ?_)
    · -- taken: 44
      refine lv_iconst (v := nI 1) hx hb d_p6m21_44 (by decide) ?_
      refine W.eq (g2 := F0 m 45 ls [.int (pd_b true)]) rfl ?_
      exact pd_zret (v := true) X w ⟨(gr_sw_t hle (fun j hj2 => hj j (by omega))).symm, rfl⟩ (by decide) (by decide) d_p6m21_45
    · -- not taken: 23
      refine lv_aload_n hx hb d_p6m21_23 rfl (lv_at hl 1 rfl) ?_
      refine lv_iload_n hx hb d_p6m21_24 rfl (lv_at hl 0 rfl) ?_
      refine pd_cV (a := a) (As := [.int (nI i)]) (rest := []) X w hv1 rfl (c_String_charAt l G h (by assumption) (by omega)) ok_String_charAt ⟨mT_102, mT_103⟩ mT_639 ⟨by decide, by decide⟩ rfl hl.1 rfl (Nat.le_of_ble_eq_true rfl) d_p6m21_25 ⟨by decide, by decide⟩ (fun r6 h7 H locs hp8 w => ?_)
      refine W.widen (k := 0) (n := 0) (by decide) (by decide) ?_
      obtain ⟨e9, lt10, rfl⟩ := hp8
      refine lv_aload_n hx hb d_p6m21_28 rfl (lv_at hl 2 rfl) ?_
      refine lv_iload_n hx hb d_p6m21_29 rfl (lv_at hl 0 rfl) ?_
      refine pd_cV (a := a2) (As := [.int (nI i)]) (rest := [.int (nI r6)]) X w hu1 rfl (c_String_charAt l G h (by assumption) (by omega)) ok_String_charAt ⟨mT_102, mT_103⟩ mT_639 ⟨by decide, by decide⟩ rfl hl.1 rfl (Nat.le_of_ble_eq_true rfl) d_p6m21_30 ⟨by decide, by decide⟩ (fun r11 h12 H locs hp13 w => ?_)
      refine W.widen (k := 0) (n := 0) (by decide) (by decide) ?_
      obtain ⟨e14, lt15, rfl⟩ := hp13
      refine pd_jeq (tgt := 38) hx hb d_p6m21_33 (by decide) (by omega) (by omega) (fun q16 => ?_) (fun q16 => ?_)
      · -- taken: 38
        refine pd_iinc (k := 0) (d := 1) (lv' := [(2, .int (nI (i + 1))), (0, .ref a), (1, .ref a2)]) hx hb d_p6m21_38 (by decide) hl rfl (by decide) rfl (fun ls hl => ?_)
        refine lv_goto (tgt := 15) hx hb d_p6m21_41 (by decide) ?_
        exact ih (i + 1) (by omega) (hle) (lt_s hj (by omega)) (by omega) _ _ w ls (lv_sub hl [0, 1, 2] rfl)
      · -- not taken: 36
        refine lv_iconst (v := nI 0) hx hb d_p6m21_36 (by decide) ?_
        refine W.eq (g2 := F0 m 37 ls [.int (pd_b false)]) rfl ?_
        exact pd_zret (v := false) X w ⟨(gr_sw_f2 (i := i) (by omega) (by omega)).symm, rfl⟩ (by decide) (by decide) d_p6m21_37
set_option maxHeartbeats 4000000 in
set_option maxRecDepth 100000 in
theorem c_Grammar_startsWith (l : Launch) (G : pd_G) (h : pd_H) {a : Nat} {cs : List Nat} {a2 : Nat} {ds : List Nat} (hS : pd_Str h a cs) (hS2 : pd_Str h a2 ds) : pd_M l y_Grammar_startsWith prog_6_method_21_code 3 (some .boolean) rm_Grammar_startsWith G h [.ref a, .ref a2] pd_vb (fun r h1 => r = gr_sw cs ds ∧ h = h1) := by
  refine pd_M.of (by decide) (Nat.le_of_ble_eq_true rfl) ?_
  intro p e s m below meth c X hmn w ls hl
  have hx := X.1
  have hb := X.2.1
  have hl : lv_has ls 3 [(0, .ref a), (1, .ref a2)] := hl
  obtain ⟨v1, f1, hv1, hv2, hvf, hvc, hvl⟩ := id hS
  obtain ⟨v2, f2, hu1, hu2, huf, huc, hul⟩ := id hS2
  refine lv_aload_n hx hb d_p6m21_0 rfl (lv_at hl 0 rfl) ?_
  refine pd_cV (a := a) (As := []) (rest := []) X w hv1 rfl (c_String_length l G h (by assumption)) ok_String_length ⟨mT_93, mT_94⟩ mT_638 ⟨by decide, by decide⟩ rfl hl.1 rfl (Nat.le_of_ble_eq_true rfl) d_p6m21_1 ⟨by decide, by decide⟩ (fun r1 h2 H locs hp3 w => ?_)
  refine W.widen (k := 0) (n := 0) (by decide) (by decide) ?_
  obtain ⟨e4, rfl⟩ := hp3
  refine lv_aload_n hx hb d_p6m21_4 rfl (lv_at hl 1 rfl) ?_
  refine pd_cV (a := a2) (As := []) (rest := [.int (nI r1)]) X w hu1 rfl (c_String_length l G h (by assumption)) ok_String_length ⟨mT_93, mT_94⟩ mT_638 ⟨by decide, by decide⟩ rfl hl.1 rfl (Nat.le_of_ble_eq_true rfl) d_p6m21_5 ⟨by decide, by decide⟩ (fun r5 h6 H locs hp7 w => ?_)
  refine W.widen (k := 0) (n := 0) (by decide) (by decide) ?_
  obtain ⟨e8, rfl⟩ := hp7
  refine pd_jge (tgt := 13) hx hb d_p6m21_8 (by decide) (by omega) (by omega) (fun q9 => ?_) (fun q9 => ?_)
  · -- taken: 13
    refine lv_iconst (v := nI 0) hx hb d_p6m21_13 (by decide) ?_
    refine lv_istore_n (lv' := [(2, .int (nI 0)), (0, .ref a), (1, .ref a2)]) hx hb d_p6m21_14 rfl hl (by decide) rfl (fun ls hl => ?_)
    exact lp_Grammar_startsWith_15 l G h hS hS2 X hmn (ds.length + 1) 0 (by omega) (by omega) (by intro j hj; omega) (by omega) _ _ w ls (lv_sub hl [0, 1, 2] rfl)
  · -- not taken: 11
    refine lv_iconst (v := nI 0) hx hb d_p6m21_11 (by decide) ?_
    refine W.eq (g2 := F0 m 12 ls [.int (pd_b false)]) rfl ?_
    exact pd_zret (v := false) X w ⟨(gr_sw_f1 (by omega)).symm, rfl⟩ (by decide) (by decide) d_p6m21_12
theorem tx_sub_end {cs : List Nat} {x : Nat} : tx_sub cs x cs.length = cs.drop x := by
  unfold tx_sub
  rw [List.take_of_length_le]
  rw [List.length_drop]
  omega
theorem d_p6m22_0 : decode prog_6_method_22_code 0 = .ok (.aload_n 0, 1) := by decide +kernel
theorem d_p6m22_1 : decode prog_6_method_22_code 1 = .ok (.invokevirtual 69, 3) := by decide +kernel
theorem d_p6m22_4 : decode prog_6_method_22_code 4 = .ok (.aload_n 1, 1) := by decide +kernel
theorem d_p6m22_5 : decode prog_6_method_22_code 5 = .ok (.invokevirtual 69, 3) := by decide +kernel
theorem d_p6m22_8 : decode prog_6_method_22_code 8 = .ok (.if_icmp .lt 27, 3) := by decide +kernel
theorem d_p6m22_11 : decode prog_6_method_22_code 11 = .ok (.aload_n 0, 1) := by decide +kernel
theorem d_p6m22_12 : decode prog_6_method_22_code 12 = .ok (.aload_n 0, 1) := by decide +kernel
theorem d_p6m22_13 : decode prog_6_method_22_code 13 = .ok (.invokevirtual 69, 3) := by decide +kernel
theorem d_p6m22_16 : decode prog_6_method_22_code 16 = .ok (.aload_n 1, 1) := by decide +kernel
theorem d_p6m22_17 : decode prog_6_method_22_code 17 = .ok (.invokevirtual 69, 3) := by decide +kernel
theorem d_p6m22_20 : decode prog_6_method_22_code 20 = .ok (.isub, 1) := by decide +kernel
theorem d_p6m22_21 : decode prog_6_method_22_code 21 = .ok (.invokevirtual 94, 3) := by decide +kernel
theorem d_p6m22_24 : decode prog_6_method_22_code 24 = .ok (.aload_n 1, 1) := by decide +kernel
theorem d_p6m22_25 : decode prog_6_method_22_code 25 = .ok (.invokevirtual 60, 3) := by decide +kernel
theorem d_p6m22_28 : decode prog_6_method_22_code 28 = .ok (.ifCond .eq 7, 3) := by decide +kernel
theorem d_p6m22_31 : decode prog_6_method_22_code 31 = .ok (.iconst 1, 1) := by decide +kernel
theorem d_p6m22_32 : decode prog_6_method_22_code 32 = .ok (.goto 4, 3) := by decide +kernel
theorem d_p6m22_35 : decode prog_6_method_22_code 35 = .ok (.iconst 0, 1) := by decide +kernel
theorem d_p6m22_36 : decode prog_6_method_22_code 36 = .ok (.ireturn, 1) := by decide +kernel
abbrev y_Grammar_endsWith : MethodName := ⟨"PolicyDesk$Grammar", "endsWith", "(Ljava/lang/String;Ljava/lang/String;)Z"⟩
theorem ok_Grammar_endsWith : pd_ok y_Grammar_endsWith prog_6_method_22_code 2 (some .boolean) 2 := ⟨mT_755, mT_25, by decide, by decide +kernel⟩
abbrev rm_Grammar_endsWith : Room := { frames := 6, cells := 2, slots := 64, locals := 153 }
set_option maxHeartbeats 4000000 in
set_option maxRecDepth 100000 in
theorem c_Grammar_endsWith (l : Launch) (G : pd_G) (h : pd_H) {a : Nat} {cs : List Nat} {a2 : Nat} {ds : List Nat} (hS : pd_Str h a cs) (hS2 : pd_Str h a2 ds) : pd_M l y_Grammar_endsWith prog_6_method_22_code 2 (some .boolean) rm_Grammar_endsWith G h [.ref a, .ref a2] pd_vb (fun r h1 => r = gr_ew cs ds ∧ pd_kx [] h h1) := by
  refine pd_M.of (by decide) (Nat.le_of_ble_eq_true rfl) ?_
  intro p e s m below meth c X hmn w ls hl
  have hx := X.1
  have hb := X.2.1
  have hl : lv_has ls 2 [(0, .ref a), (1, .ref a2)] := hl
  obtain ⟨v1, f1, hv1, hv2, hvf, hvc, hvl⟩ := id hS
  obtain ⟨v2, f2, hu1, hu2, huf, huc, hul⟩ := id hS2
  refine lv_aload_n hx hb d_p6m22_0 rfl (lv_at hl 0 rfl) ?_
  refine pd_cV (a := a) (As := []) (rest := []) X w hv1 rfl (c_String_length l G h (by assumption)) ok_String_length ⟨mT_93, mT_94⟩ mT_638 ⟨by decide, by decide⟩ rfl hl.1 rfl (Nat.le_of_ble_eq_true rfl) d_p6m22_1 ⟨by decide, by decide⟩ (fun r1 h2 H locs hp3 w => ?_)
  refine W.widen (k := 0) (n := 0) (by decide) (by decide) ?_
  obtain ⟨e4, rfl⟩ := hp3
  refine lv_aload_n hx hb d_p6m22_4 rfl (lv_at hl 1 rfl) ?_
  refine pd_cV (a := a2) (As := []) (rest := [.int (nI r1)]) X w hu1 rfl (c_String_length l G h (by assumption)) ok_String_length ⟨mT_93, mT_94⟩ mT_638 ⟨by decide, by decide⟩ rfl hl.1 rfl (Nat.le_of_ble_eq_true rfl) d_p6m22_5 ⟨by decide, by decide⟩ (fun r5 h6 H locs hp7 w => ?_)
  refine W.widen (k := 0) (n := 0) (by decide) (by decide) ?_
  obtain ⟨e8, rfl⟩ := hp7
  refine pd_jlt (tgt := 35) hx hb d_p6m22_8 (by decide) (by omega) (by omega) (fun q9 => ?_) (fun q9 => ?_)
  · -- taken: 35
    refine lv_iconst (v := nI 0) hx hb d_p6m22_35 (by decide) ?_
    refine W.eq (g2 := F0 m 36 ls [.int (pd_b false)]) rfl ?_
    exact pd_zret (v := false) X w ⟨(decide_eq_false (fun z => by omega)).symm, pd_kx.rf⟩ (by decide) (by decide) d_p6m22_36
  · -- not taken: 11
    refine lv_aload_n hx hb d_p6m22_11 rfl (lv_at hl 0 rfl) ?_
    refine lv_aload_n hx hb d_p6m22_12 rfl (lv_at hl 0 rfl) ?_
    refine pd_cV (a := a) (As := []) (rest := [.ref a]) X w hv1 rfl (c_String_length l G h (by assumption)) ok_String_length ⟨mT_93, mT_94⟩ mT_638 ⟨by decide, by decide⟩ rfl hl.1 rfl (Nat.le_of_ble_eq_true rfl) d_p6m22_13 ⟨by decide, by decide⟩ (fun r10 h11 H locs hp12 w => ?_)
    refine W.widen (k := 0) (n := 0) (by decide) (by decide) ?_
    obtain ⟨e13, rfl⟩ := hp12
    refine lv_aload_n hx hb d_p6m22_16 rfl (lv_at hl 1 rfl) ?_
    refine pd_cV (a := a2) (As := []) (rest := [.int (nI r10), .ref a]) X w hu1 rfl (c_String_length l G h (by assumption)) ok_String_length ⟨mT_93, mT_94⟩ mT_638 ⟨by decide, by decide⟩ rfl hl.1 rfl (Nat.le_of_ble_eq_true rfl) d_p6m22_17 ⟨by decide, by decide⟩ (fun r14 h15 H locs hp16 w => ?_)
    refine W.widen (k := 0) (n := 0) (by decide) (by decide) ?_
    obtain ⟨e17, rfl⟩ := hp16
    refine pd_isub hx hb d_p6m22_20 (by omega) ?_
    refine pd_cV (a := a) (As := [.int (nI (r10 - r14))]) (rest := []) X w hv1 rfl (c_String_substring l G h (by assumption) (by omega)) ok_String_substring ⟨mT_702, mT_703⟩ mT_701 ⟨by decide, by decide⟩ rfl hl.1 rfl (Nat.le_of_ble_eq_true rfl) d_p6m22_21 ⟨by decide, by decide⟩ (fun r18 h19 H locs hp20 w => ?_)
    refine W.widen (k := 2) (n := 64) (by decide) (by decide) ?_
    obtain ⟨k21, ds22, e23, f24⟩ := hp20
    have f32 := k21 _ _ hv1 List.not_mem_nil
    have f33 := k21 _ _ hu1 List.not_mem_nil
    have f34 := k21 _ _ hv2 List.not_mem_nil
    have f35 := k21 _ _ hu2 List.not_mem_nil
    have f36 := hS.kx k21 List.not_mem_nil
    have f37 := hS2.kx k21 List.not_mem_nil
    obtain ⟨v25, g26, f27, f28, gf29, gc30, gl31⟩ := id f24
    refine lv_aload_n hx hb d_p6m22_24 rfl (lv_at hl 1 rfl) ?_
    refine pd_cV (a := r18) (As := [.ref a2]) (rest := []) X w f27 rfl (c_String_equals l G h19 (by assumption) (by assumption)) ok_String_equals ⟨mT_613, mT_614⟩ mT_644 ⟨by decide, by decide⟩ rfl hl.1 rfl (Nat.le_of_ble_eq_true rfl) d_p6m22_25 ⟨by decide, by decide⟩ (fun r38 h39 H locs hp40 w => ?_)
    refine W.widen (k := 2) (n := 64) (by decide) (by decide) ?_
    obtain ⟨e41, rfl⟩ := hp40
    refine pd_beq (tgt := 35) hx hb d_p6m22_28 (by decide) (fun q42 => ?_) (fun q42 => ?_)
    · -- taken: 35
      refine lv_iconst (v := nI 0) hx hb d_p6m22_35 (by decide) ?_
      refine W.eq (g2 := F0 m 36 ls [.int (pd_b false)]) rfl ?_
      exact pd_zret (v := false) X w ⟨(decide_eq_false (fun z => of_decide_eq_false (e41.symm.trans q42) (by rw [e23, tx_sub_end, e13, e17]; exact z.2))).symm, k21⟩ (by decide) (by decide) d_p6m22_36
    · -- not taken: 31
      refine lv_iconst (v := nI 1) hx hb d_p6m22_31 (by decide) ?_
      refine lv_goto (tgt := 36) hx hb d_p6m22_32 (by decide) ?_
      refine W.eq (g2 := F0 m 36 ls [.int (pd_b true)]) rfl ?_
      exact pd_zret (v := true) X w ⟨(decide_eq_true ⟨by omega, by rw [← e13, ← e17, ← tx_sub_end, ← e23]; exact of_decide_eq_true (e41.symm.trans q42)⟩).symm, k21⟩ (by decide) (by decide) d_p6m22_36
