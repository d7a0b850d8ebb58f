/-! shapes -/
def gr_shl (cs : List Nat) : Nat → Option Nat → Option Nat
  | 0, o => o
  | _ + 1, none => none
  | n + 1, some k => if gr_at cs k 41 = true then some k else gr_shl cs n (gr_te cs k)
theorem gr_shl_none (cs : List Nat) (n : Nat) : gr_shl cs n none = none := by cases n <;> rfl
theorem gr_shl_t {cs : List Nat} {n k : Nat} (h : gr_at cs k 41 = true) : gr_shl cs n (some k) = some k := by
  cases n with
  | zero => rfl
  | succ n => rw [gr_shl, if_pos h]
theorem gr_shl_s {cs : List Nat} {n k : Nat} (hn : 0 < n) (h : gr_at cs k 41 = false) : gr_shl cs n (some k) = gr_shl cs (n - 1) (gr_te cs k) := by
  obtain ⟨n, rfl⟩ : ∃ z, n = z + 1 := ⟨n - 1, by omega⟩
  rw [gr_shl, if_neg (by rw [h]; decide)]
  rfl
def gr_shape (cs : List Nat) : Bool := gr_at cs 0 40 && match gr_shl cs (cs.length - 1) (some 1) with
  | none => false
  | some k => gr_at cs k 41 && ((gr_at cs (k + 1) 86 && decide (cs.length = k + 2)) || decide (gr_te cs (k + 1) = some cs.length))
abbrev y_Grammar_isAtN : MethodName := ⟨"PolicyDesk$Grammar", "isAt", "(Ljava/lang/String;IC)Z"⟩
theorem ok_Grammar_isAtN : pd_ok y_Grammar_isAtN prog_6_method_14_code 3 (some .boolean) 3 := ⟨mT_742, mT_25, by decide, by decide +kernel⟩
abbrev rm_Grammar_isAtN : Room := { frames := 0, cells := 0, slots := 0, locals := 0 }
set_option maxHeartbeats 4000000 in
set_option maxRecDepth 100000 in
theorem c_Grammar_isAtN (l : Launch) (G : pd_G) (h : pd_H) {a : Nat} {cs : List Nat} {ch : Nat} (hS : pd_Str h a cs) (hch : ch < 256) : pd_M l y_Grammar_isAtN prog_6_method_14_code 3 (some .boolean) rm_Grammar_isAtN G h [.ref a, .int (-1), .int (nI ch)] pd_vb (fun r h1 => r = false ∧ h = h1) := by
  refine pd_M.of (by decide) (Nat.le_of_ble_eq_true rfl) ?_
  intro p e s m below meth c X hmn w ls hl
  have hx := X.1
  have hb := X.2.1
  have hl : lv_has ls 3 [(0, .ref a), (1, .int (-1)), (2, .int (nI ch))] := hl
  obtain ⟨v1, f1, hv1, hv2, hvf, hvc, hvl⟩ := id hS
  refine lv_iload_n hx hb d_p6m14_0 rfl (lv_at hl 1 rfl) ?_
  refine lv_if_lt (tgt := 25) hx hb d_p6m14_1 (by decide) (fun _ => ?_) (fun q => absurd (by decide) q)
  refine lv_iconst (v := nI 0) hx hb d_p6m14_25 (by decide) ?_
  refine W.eq (g2 := F0 m 26 ls [.int (pd_b false)]) rfl ?_
  exact pd_zret (v := false) X w ⟨rfl, rfl⟩ (by decide) (by decide) d_p6m14_26
theorem d_p6m13_0 : decode prog_6_method_13_code 0 = .ok (.aload_n 0, 1) := by decide +kernel
theorem d_p6m13_1 : decode prog_6_method_13_code 1 = .ok (.iconst 0, 1) := by decide +kernel
theorem d_p6m13_2 : decode prog_6_method_13_code 2 = .ok (.bipush 40, 2) := by decide +kernel
theorem d_p6m13_4 : decode prog_6_method_13_code 4 = .ok (.invokestatic 122, 3) := by decide +kernel
theorem d_p6m13_7 : decode prog_6_method_13_code 7 = .ok (.ifCond .ne 5, 3) := by decide +kernel
theorem d_p6m13_10 : decode prog_6_method_13_code 10 = .ok (.iconst 0, 1) := by decide +kernel
theorem d_p6m13_11 : decode prog_6_method_13_code 11 = .ok (.ireturn, 1) := by decide +kernel
theorem d_p6m13_12 : decode prog_6_method_13_code 12 = .ok (.iconst 1, 1) := by decide +kernel
theorem d_p6m13_13 : decode prog_6_method_13_code 13 = .ok (.istore_n 1, 1) := by decide +kernel
theorem d_p6m13_14 : decode prog_6_method_13_code 14 = .ok (.iconst 1, 1) := by decide +kernel
theorem d_p6m13_15 : decode prog_6_method_13_code 15 = .ok (.istore_n 2, 1) := by decide +kernel
theorem d_p6m13_16 : decode prog_6_method_13_code 16 = .ok (.iload_n 2, 1) := by decide +kernel
theorem d_p6m13_17 : decode prog_6_method_13_code 17 = .ok (.aload_n 0, 1) := by decide +kernel
theorem d_p6m13_18 : decode prog_6_method_13_code 18 = .ok (.invokevirtual 69, 3) := by decide +kernel
theorem d_p6m13_21 : decode prog_6_method_13_code 21 = .ok (.if_icmp .ge 30, 3) := by decide +kernel
theorem d_p6m13_24 : decode prog_6_method_13_code 24 = .ok (.iload_n 1, 1) := by decide +kernel
theorem d_p6m13_25 : decode prog_6_method_13_code 25 = .ok (.iconst (-1), 1) := by decide +kernel
theorem d_p6m13_26 : decode prog_6_method_13_code 26 = .ok (.if_icmp .eq 25, 3) := by decide +kernel
theorem d_p6m13_29 : decode prog_6_method_13_code 29 = .ok (.aload_n 0, 1) := by decide +kernel
theorem d_p6m13_30 : decode prog_6_method_13_code 30 = .ok (.iload_n 1, 1) := by decide +kernel
theorem d_p6m13_31 : decode prog_6_method_13_code 31 = .ok (.bipush 41, 2) := by decide +kernel
theorem d_p6m13_33 : decode prog_6_method_13_code 33 = .ok (.invokestatic 122, 3) := by decide +kernel
theorem d_p6m13_36 : decode prog_6_method_13_code 36 = .ok (.ifCond .ne 15, 3) := by decide +kernel
theorem d_p6m13_39 : decode prog_6_method_13_code 39 = .ok (.aload_n 0, 1) := by decide +kernel
theorem d_p6m13_40 : decode prog_6_method_13_code 40 = .ok (.iload_n 1, 1) := by decide +kernel
theorem d_p6m13_41 : decode prog_6_method_13_code 41 = .ok (.invokestatic 118, 3) := by decide +kernel
theorem d_p6m13_44 : decode prog_6_method_13_code 44 = .ok (.istore_n 1, 1) := by decide +kernel
theorem d_p6m13_45 : decode prog_6_method_13_code 45 = .ok (.iinc 2 1, 3) := by decide +kernel
theorem d_p6m13_48 : decode prog_6_method_13_code 48 = .ok (.goto (-32), 3) := by decide +kernel
theorem d_p6m13_51 : decode prog_6_method_13_code 51 = .ok (.aload_n 0, 1) := by decide +kernel
theorem d_p6m13_52 : decode prog_6_method_13_code 52 = .ok (.iload_n 1, 1) := by decide +kernel
theorem d_p6m13_53 : decode prog_6_method_13_code 53 = .ok (.bipush 41, 2) := by decide +kernel
theorem d_p6m13_55 : decode prog_6_method_13_code 55 = .ok (.invokestatic 122, 3) := by decide +kernel
theorem d_p6m13_58 : decode prog_6_method_13_code 58 = .ok (.ifCond .ne 5, 3) := by decide +kernel
theorem d_p6m13_61 : decode prog_6_method_13_code 61 = .ok (.iconst 0, 1) := by decide +kernel
theorem d_p6m13_62 : decode prog_6_method_13_code 62 = .ok (.ireturn, 1) := by decide +kernel
theorem d_p6m13_63 : decode prog_6_method_13_code 63 = .ok (.aload_n 0, 1) := by decide +kernel
theorem d_p6m13_64 : decode prog_6_method_13_code 64 = .ok (.iload_n 1, 1) := by decide +kernel
theorem d_p6m13_65 : decode prog_6_method_13_code 65 = .ok (.iconst 1, 1) := by decide +kernel
theorem d_p6m13_66 : decode prog_6_method_13_code 66 = .ok (.iadd, 1) := by decide +kernel
theorem d_p6m13_67 : decode prog_6_method_13_code 67 = .ok (.bipush 86, 2) := by decide +kernel
theorem d_p6m13_69 : decode prog_6_method_13_code 69 = .ok (.invokestatic 122, 3) := by decide +kernel
theorem d_p6m13_72 : decode prog_6_method_13_code 72 = .ok (.ifCond .eq 17, 3) := by decide +kernel
theorem d_p6m13_75 : decode prog_6_method_13_code 75 = .ok (.aload_n 0, 1) := by decide +kernel
theorem d_p6m13_76 : decode prog_6_method_13_code 76 = .ok (.invokevirtual 69, 3) := by decide +kernel
theorem d_p6m13_79 : decode prog_6_method_13_code 79 = .ok (.iload_n 1, 1) := by decide +kernel
theorem d_p6m13_80 : decode prog_6_method_13_code 80 = .ok (.iconst 2, 1) := by decide +kernel
theorem d_p6m13_81 : decode prog_6_method_13_code 81 = .ok (.iadd, 1) := by decide +kernel
theorem d_p6m13_82 : decode prog_6_method_13_code 82 = .ok (.if_icmp .ne 7, 3) := by decide +kernel
theorem d_p6m13_85 : decode prog_6_method_13_code 85 = .ok (.iconst 1, 1) := by decide +kernel
theorem d_p6m13_86 : decode prog_6_method_13_code 86 = .ok (.goto 4, 3) := by decide +kernel
theorem d_p6m13_89 : decode prog_6_method_13_code 89 = .ok (.iconst 0, 1) := by decide +kernel
theorem d_p6m13_90 : decode prog_6_method_13_code 90 = .ok (.istore_n 2, 1) := by decide +kernel
theorem d_p6m13_91 : decode prog_6_method_13_code 91 = .ok (.iload_n 2, 1) := by decide +kernel
theorem d_p6m13_92 : decode prog_6_method_13_code 92 = .ok (.ifCond .ne 17, 3) := by decide +kernel
theorem d_p6m13_95 : decode prog_6_method_13_code 95 = .ok (.aload_n 0, 1) := by decide +kernel
theorem d_p6m13_96 : decode prog_6_method_13_code 96 = .ok (.iload_n 1, 1) := by decide +kernel
theorem d_p6m13_97 : decode prog_6_method_13_code 97 = .ok (.iconst 1, 1) := by decide +kernel
theorem d_p6m13_98 : decode prog_6_method_13_code 98 = .ok (.iadd, 1) := by decide +kernel
theorem d_p6m13_99 : decode prog_6_method_13_code 99 = .ok (.invokestatic 118, 3) := by decide +kernel
theorem d_p6m13_102 : decode prog_6_method_13_code 102 = .ok (.aload_n 0, 1) := by decide +kernel
theorem d_p6m13_103 : decode prog_6_method_13_code 103 = .ok (.invokevirtual 69, 3) := by decide +kernel
theorem d_p6m13_106 : decode prog_6_method_13_code 106 = .ok (.if_icmp .ne 7, 3) := by decide +kernel
theorem d_p6m13_109 : decode prog_6_method_13_code 109 = .ok (.iconst 1, 1) := by decide +kernel
theorem d_p6m13_110 : decode prog_6_method_13_code 110 = .ok (.goto 4, 3) := by decide +kernel
theorem d_p6m13_113 : decode prog_6_method_13_code 113 = .ok (.iconst 0, 1) := by decide +kernel
theorem d_p6m13_114 : decode prog_6_method_13_code 114 = .ok (.ireturn, 1) := by decide +kernel
abbrev y_Grammar_isShape : MethodName := ⟨"PolicyDesk$Grammar", "isShape", "(Ljava/lang/String;)Z"⟩
theorem ok_Grammar_isShape : pd_ok y_Grammar_isShape prog_6_method_13_code 3 (some .boolean) 1 := ⟨mT_739, mT_25, by decide, by decide +kernel⟩
abbrev rm_Grammar_isShape : Room := { frames := 7, cells := 120, slots := 3840, locals := 176 }
set_option maxHeartbeats 4000000 in
set_option maxRecDepth 100000 in
theorem lp_Grammar_isShape_16 (l : Launch) (G : pd_G) (h : pd_H) {a : Nat} {cs : List Nat} (hS : pd_Str h a cs) {p : Program} {e : Env} {s : State} {m : MethodId} {below : List Frame} {meth : Method} {c : Code} (X : pd_B p s m [.ref a].toArray meth c G y_Grammar_isShape.cls prog_6_method_13_code 3 (some .boolean)) (hmn : meth.name = y_Grammar_isShape.name) :
    ∀ (kk9 : Nat) (i : Nat) (o : Option Nat) (cC : Nat) (cS : Nat) (h2 : pd_H), (gr_at cs 0 40 = true) → (1 ≤ i) → (i ≤ 61) → (∀ k, o = some k → k ≤ 400) → (cC + 2 * (60 - i) + 2 ≤ 120) → (cS + 64 * (60 - i) + 64 ≤ 3840) → (pd_kx [] h h2) → (pd_Str h2 a cs) → (gr_shl cs (cs.length - i) o = gr_shl cs (cs.length - 1) (some 1)) → cs.length - i < kk9 → ∀ (H : Heap) (locs : List Loc), pd_w G s H locs h2 → ∀ ls : Array Slot, lv_has ls 3 [(2, .int (nI i)), (1, .int (pd_m o)), (0, .ref a)] → W p l e rm_Grammar_isShape s m [.ref a].toArray below meth c H locs cC cS (MQ below (pd_Q G pd_vb (fun r h1 => r = gr_shape cs ∧ pd_kx [] h h1)) [.ref a].toArray s rm_Grammar_isShape.cells rm_Grammar_isShape.slots (fun q => G.2.1 ≤ q)) (F0 m 16 ls []) := by
  have hx := X.1
  have hb := X.2.1
  obtain ⟨v1, f1, hv1, hv2, hvf, hvc, hvl⟩ := id hS
  intro kk9
  induction kk9 with
  | zero => intros; omega
  | succ kk9 ih =>
    intro i o cC cS h2 h40 hi hi2 ho hcC hcS hk2 hs2 hv hmu H locs w ls hl
    obtain ⟨v3, f3, hw1, hw2, hwf, hwc, hwl⟩ := id hs2
    rcases o with _ | k
    · -- none
      have hl : lv_has ls 3 [(2, .int (nI i)), (1, .int (-1)), (0, .ref a)] := hl
      refine lv_iload_n hx hb d_p6m13_16 rfl (lv_at hl 0 rfl) ?_
      refine lv_aload_n hx hb d_p6m13_17 rfl (lv_at hl 2 rfl) ?_
      refine pd_cV (a := a) (As := []) (rest := [.int (nI i)]) X w hw1 rfl (c_String_length l G h2 (by assumption)) ok_String_length ⟨mT_93, mT_94⟩ mT_638 ⟨by decide, by decide⟩ rfl hl.1 rfl (Nat.le_of_ble_eq_true rfl) d_p6m13_18 ⟨Nat.le_trans (m := 120) (by show cC + 0 ≤ 120; omega) (by decide), Nat.le_trans (m := 3840) (by show cS + 0 ≤ 3840; omega) (by decide)⟩ (fun r1 h2 H locs hp3 w => ?_)
      refine W.widen (k := cC) (n := cS) (by show cC + 0 ≤ cC; omega) (by show cS + 0 ≤ cS; omega) ?_
      obtain ⟨e4, rfl⟩ := hp3
      refine pd_jge (tgt := 51) hx hb d_p6m13_21 (by decide) (by omega) (by omega) (fun q5 => ?_) (fun q5 => ?_)
      · -- taken: 51
        have hend : gr_shl cs (cs.length - 1) (some 1) = none := hv.symm.trans (gr_shl_none _ _)
        refine lv_aload_n hx hb d_p6m13_51 rfl (lv_at hl 2 rfl) ?_
        refine lv_iload_n hx hb d_p6m13_52 rfl (lv_at hl 1 rfl) ?_
        refine lv_bipush (v := nI 41) hx hb d_p6m13_53 (by decide) ?_
        refine pd_cS (As := [.ref a, .int (-1), .int (nI 41)]) (rest := []) X w (c_Grammar_isAtN l G h2 (by assumption) (by omega)) ok_Grammar_isAtN mT_741 mT_740 ⟨by decide, by decide⟩ rfl hl.1 rfl (Nat.le_of_ble_eq_true rfl) d_p6m13_55 ⟨Nat.le_trans (m := 120) (by show cC + 0 ≤ 120; omega) (by decide), Nat.le_trans (m := 3840) (by show cS + 0 ≤ 3840; omega) (by decide)⟩ (fun r6 h7 H locs hp8 w => ?_)
        refine W.widen (k := cC) (n := cS) (by show cC + 0 ≤ cC; omega) (by show cS + 0 ≤ cS; omega) ?_
        obtain ⟨e9, rfl⟩ := hp8
        refine pd_bne (tgt := 63) hx hb d_p6m13_58 (by decide) (fun q10 => ?_) (fun q10 => ?_)
        · -- taken: 63
          rw [e9] at q10
          cases q10
        · -- not taken: 61
          refine lv_iconst (v := nI 0) hx hb d_p6m13_61 (by decide) ?_
          refine W.eq (g2 := F0 m 62 ls [.int (pd_b false)]) rfl ?_
          exact pd_zret (v := false) X w ⟨by unfold gr_shape; rw [hend]; simp, hk2⟩ (Nat.le_trans (m := 120) (by show cC ≤ 120; omega) (by decide)) (Nat.le_trans (m := 3840) (by show cS ≤ 3840; omega) (by decide)) d_p6m13_62
      · -- not taken: 24
        refine lv_iload_n hx hb d_p6m13_24 rfl (lv_at hl 1 rfl) ?_
        refine lv_iconst (v := -1) hx hb d_p6m13_25 (by decide) ?_
        refine lv_icmp_eq (tgt := 51) hx hb d_p6m13_26 (by decide) (fun _ => ?_) (fun q => absurd rfl q)
        have hend : gr_shl cs (cs.length - 1) (some 1) = none := hv.symm.trans (gr_shl_none _ _)
        refine lv_aload_n hx hb d_p6m13_51 rfl (lv_at hl 2 rfl) ?_
        refine lv_iload_n hx hb d_p6m13_52 rfl (lv_at hl 1 rfl) ?_
        refine lv_bipush (v := nI 41) hx hb d_p6m13_53 (by decide) ?_
        refine pd_cS (As := [.ref a, .int (-1), .int (nI 41)]) (rest := []) X w (c_Grammar_isAtN l G h2 (by assumption) (by omega)) ok_Grammar_isAtN mT_741 mT_740 ⟨by decide, by decide⟩ rfl hl.1 rfl (Nat.le_of_ble_eq_true rfl) d_p6m13_55 ⟨Nat.le_trans (m := 120) (by show cC + 0 ≤ 120; omega) (by decide), Nat.le_trans (m := 3840) (by show cS + 0 ≤ 3840; omega) (by decide)⟩ (fun r12 h13 H locs hp14 w => ?_)
        refine W.widen (k := cC) (n := cS) (by show cC + 0 ≤ cC; omega) (by show cS + 0 ≤ cS; omega) ?_
        obtain ⟨e15, rfl⟩ := hp14
        refine pd_bne (tgt := 63) hx hb d_p6m13_58 (by decide) (fun q16 => ?_) (fun q16 => ?_)
        · -- taken: 63
          rw [e15] at q16
          cases q16
        · -- not taken: 61
          refine lv_iconst (v := nI 0) hx hb d_p6m13_61 (by decide) ?_
          refine W.eq (g2 := F0 m 62 ls [.int (pd_b false)]) rfl ?_
          exact pd_zret (v := false) X w ⟨by unfold gr_shape; rw [hend]; simp, hk2⟩ (Nat.le_trans (m := 120) (by show cC ≤ 120; omega) (by decide)) (Nat.le_trans (m := 3840) (by show cS ≤ 3840; omega) (by decide)) d_p6m13_62
    · -- some k
      have hl : lv_has ls 3 [(2, .int (nI i)), (1, .int (nI k)), (0, .ref a)] := hl
      have hk5 := ho k rfl
      refine lv_iload_n hx hb d_p6m13_16 rfl (lv_at hl 0 rfl) ?_
      refine lv_aload_n hx hb d_p6m13_17 rfl (lv_at hl 2 rfl) ?_
      refine pd_cV (a := a) (As := []) (rest := [.int (nI i)]) X w hw1 rfl (c_String_length l G h2 (by assumption)) ok_String_length ⟨mT_93, mT_94⟩ mT_638 ⟨by decide, by decide⟩ rfl hl.1 rfl (Nat.le_of_ble_eq_true rfl) d_p6m13_18 ⟨Nat.le_trans (m := 120) (by show cC + 0 ≤ 120; omega) (by decide), Nat.le_trans (m := 3840) (by show cS + 0 ≤ 3840; omega) (by decide)⟩ (fun r17 h18 H locs hp19 w => ?_)
      refine W.widen (k := cC) (n := cS) (by show cC + 0 ≤ cC; omega) (by show cS + 0 ≤ cS; omega) ?_
      obtain ⟨e20, rfl⟩ := hp19
      refine pd_jge (tgt := 51) hx hb d_p6m13_21 (by decide) (by omega) (by omega) (fun q21 => ?_) (fun q21 => ?_)
      · -- taken: 51
        have hend : gr_shl cs (cs.length - 1) (some 1) = some k := (show _ by rw [← hv, show cs.length - i = 0 by omega]; rfl)
        refine lv_aload_n hx hb d_p6m13_51 rfl (lv_at hl 2 rfl) ?_
        refine lv_iload_n hx hb d_p6m13_52 rfl (lv_at hl 1 rfl) ?_
        refine lv_bipush (v := nI 41) hx hb d_p6m13_53 (by decide) ?_
        refine pd_cS (As := [.ref a, .int (nI k), .int (nI 41)]) (rest := []) X w (c_Grammar_isAt l G h2 (by assumption) (by omega) (by omega)) ok_Grammar_isAt mT_741 mT_740 ⟨by decide, by decide⟩ rfl hl.1 rfl (Nat.le_of_ble_eq_true rfl) d_p6m13_55 ⟨Nat.le_trans (m := 120) (by show cC + 0 ≤ 120; omega) (by decide), Nat.le_trans (m := 3840) (by show cS + 0 ≤ 3840; omega) (by decide)⟩ (fun r22 h23 H locs hp24 w => ?_)
        refine W.widen (k := cC) (n := cS) (by show cC + 0 ≤ cC; omega) (by show cS + 0 ≤ cS; omega) ?_
        obtain ⟨e25, rfl⟩ := hp24
        refine pd_bne (tgt := 63) hx hb d_p6m13_58 (by decide) (fun q26 => ?_) (fun q26 => ?_)
        · -- taken: 63
          refine lv_aload_n hx hb d_p6m13_63 rfl (lv_at hl 2 rfl) ?_
          refine lv_iload_n hx hb d_p6m13_64 rfl (lv_at hl 1 rfl) ?_
          refine lv_iconst (v := nI 1) hx hb d_p6m13_65 (by decide) ?_
          refine pd_iadd hx hb d_p6m13_66 ?_
          refine lv_bipush (v := nI 86) hx hb d_p6m13_67 (by decide) ?_
          refine pd_cS (As := [.ref a, .int (nI (k + 1)), .int (nI 86)]) (rest := []) X w (c_Grammar_isAt l G h2 (by assumption) (by omega) (by omega)) ok_Grammar_isAt mT_741 mT_740 ⟨by decide, by decide⟩ rfl hl.1 rfl (Nat.le_of_ble_eq_true rfl) d_p6m13_69 ⟨Nat.le_trans (m := 120) (by show cC + 0 ≤ 120; omega) (by decide), Nat.le_trans (m := 3840) (by show cS + 0 ≤ 3840; omega) (by decide)⟩ (fun r27 h28 H locs hp29 w => ?_)
          refine W.widen (k := cC) (n := cS) (by show cC + 0 ≤ cC; omega) (by show cS + 0 ≤ cS; omega) ?_
          obtain ⟨e30, rfl⟩ := hp29
          refine pd_beq (tgt := 89) hx hb d_p6m13_72 (by decide) (fun q31 => ?_) (fun q31 => ?_)
          · -- taken: 89
            refine lv_iconst (v := nI 0) hx hb d_p6m13_89 (by decide) ?_
            refine lv_istore_n (lv' := [(2, .int (nI 0)), (1, .int (nI k)), (0, .ref a)]) hx hb d_p6m13_90 rfl hl (by decide) rfl (fun ls hl => ?_)
            refine lv_iload_n hx hb d_p6m13_91 rfl (lv_at hl 0 rfl) ?_
            refine pd_zne (tgt := 109) hx hb d_p6m13_92 (by decide) (by decide) (fun q => absurd q (by decide)) (fun _ => ?_)
            refine lv_aload_n hx hb d_p6m13_95 rfl (lv_at hl 2 rfl) ?_
            refine lv_iload_n hx hb d_p6m13_96 rfl (lv_at hl 1 rfl) ?_
            refine lv_iconst (v := nI 1) hx hb d_p6m13_97 (by decide) ?_
            refine pd_iadd hx hb d_p6m13_98 ?_
            refine pd_cS (As := [.ref a, .int (nI (k + 1))]) (rest := []) X w (c_Grammar_typeEnd l G h2 (by assumption) (by omega)) ok_Grammar_typeEnd mT_721 mT_720 ⟨by decide, by decide⟩ rfl hl.1 rfl (Nat.le_of_ble_eq_true rfl) d_p6m13_99 ⟨Nat.le_trans (m := 120) (by show cC + 2 ≤ 120; omega) (by decide), Nat.le_trans (m := 3840) (by show cS + 64 ≤ 3840; omega) (by decide)⟩ (fun r33 h34 H locs hp35 w => ?_)
            refine W.widen (k := cC + 2) (n := cS + 64) (by show cC + 2 ≤ cC + 2; omega) (by show cS + 64 ≤ cS + 64; omega) ?_
            obtain ⟨e36, k37⟩ := hp35
            have f38 := k37 _ _ hw1 List.not_mem_nil
            have f39 := k37 _ _ hw2 List.not_mem_nil
            have f40 := hs2.kx k37 List.not_mem_nil
            rcases q42 : r33 with _ | j41
            · -- none
              rw [q42] at e36
              refine W.eq (g2 := F0 m 102 ls [.int (-1)]) rfl ?_
              refine lv_aload_n hx hb d_p6m13_102 rfl (lv_at hl 2 rfl) ?_
              refine pd_cV (a := a) (As := []) (rest := [.int (-1)]) X w f38 rfl (c_String_length l G h34 (by assumption)) ok_String_length ⟨mT_93, mT_94⟩ mT_638 ⟨by decide, by decide⟩ rfl hl.1 rfl (Nat.le_of_ble_eq_true rfl) d_p6m13_103 ⟨Nat.le_trans (m := 120) (by show cC + 2 + 0 ≤ 120; omega) (by decide), Nat.le_trans (m := 3840) (by show cS + 64 + 0 ≤ 3840; omega) (by decide)⟩ (fun r43 h44 H locs hp45 w => ?_)
              refine W.widen (k := cC + 2) (n := cS + 64) (by show cC + 2 + 0 ≤ cC + 2; omega) (by show cS + 64 + 0 ≤ cS + 64; omega) ?_
              obtain ⟨e46, rfl⟩ := hp45
              refine lv_icmp_ne (tgt := 113) hx hb d_p6m13_106 (by decide) (fun _ => ?_) (fun q => absurd q (pd_m1 (by omega)))
              refine lv_iconst (v := nI 0) hx hb d_p6m13_113 (by decide) ?_
              try rw [e20] at q21
              try rw [e25] at q26
              try rw [e30] at q31
              refine W.eq (g2 := F0 m 114 ls [.int (pd_b false)]) rfl ?_
              exact pd_zret (v := false) X w ⟨by unfold gr_shape; rw [hend, h40]; simp only [Bool.true_and]; first | (rw [← e36];  simp [q21, q26, q31]; done) | (exfalso; simp [q21, q26] at q31; done) | (rw [← e36];  simp [q21, q26, q31]; omega) , hk2.tr (k37)⟩ (Nat.le_trans (m := 120) (by show cC + 2 ≤ 120; omega) (by decide)) (Nat.le_trans (m := 3840) (by show cS + 64 ≤ 3840; omega) (by decide)) d_p6m13_114
            · -- some
              rw [q42] at e36
              have j41le := gr_te_le e36.symm
              refine W.eq (g2 := F0 m 102 ls [.int (nI j41)]) rfl ?_
              refine lv_aload_n hx hb d_p6m13_102 rfl (lv_at hl 2 rfl) ?_
              refine pd_cV (a := a) (As := []) (rest := [.int (nI j41)]) X w f38 rfl (c_String_length l G h34 (by assumption)) ok_String_length ⟨mT_93, mT_94⟩ mT_638 ⟨by decide, by decide⟩ rfl hl.1 rfl (Nat.le_of_ble_eq_true rfl) d_p6m13_103 ⟨Nat.le_trans (m := 120) (by show cC + 2 + 0 ≤ 120; omega) (by decide), Nat.le_trans (m := 3840) (by show cS + 64 + 0 ≤ 3840; omega) (by decide)⟩ (fun r48 h49 H locs hp50 w => ?_)
              refine W.widen (k := cC + 2) (n := cS + 64) (by show cC + 2 + 0 ≤ cC + 2; omega) (by show cS + 64 + 0 ≤ cS + 64; omega) ?_
              obtain ⟨e51, rfl⟩ := hp50
              refine pd_jne (tgt := 113) hx hb d_p6m13_106 (by decide) (by omega) (by omega) (fun q52 => ?_) (fun q52 => ?_)
              · -- taken: 113
                refine lv_iconst (v := nI 0) hx hb d_p6m13_113 (by decide) ?_
                try rw [e20] at q21
                try rw [e25] at q26
                try rw [e30] at q31
                try rw [e51] at q52
                refine W.eq (g2 := F0 m 114 ls [.int (pd_b false)]) rfl ?_
                exact pd_zret (v := false) X w ⟨by unfold gr_shape; rw [hend, h40]; simp only [Bool.true_and]; first | (rw [← e36];  simp [q21, q26, q31, q52]; done) | (exfalso; simp [q21, q26, q31] at q52; done) | (rw [← e36];  simp [q21, q26, q31, q52]; omega) , hk2.tr (k37)⟩ (Nat.le_trans (m := 120) (by show cC + 2 ≤ 120; omega) (by decide)) (Nat.le_trans (m := 3840) (by show cS + 64 ≤ 3840; omega) (by decide)) d_p6m13_114
              · -- not taken: 109
                refine lv_iconst (v := nI 1) hx hb d_p6m13_109 (by decide) ?_
                refine lv_goto (tgt := 114) hx hb d_p6m13_110 (by decide) ?_
                try rw [e20] at q21
                try rw [e25] at q26
                try rw [e30] at q31
                try rw [e51] at q52
                refine W.eq (g2 := F0 m 114 ls [.int (pd_b true)]) rfl ?_
                exact pd_zret (v := true) X w ⟨by unfold gr_shape; rw [hend, h40]; simp only [Bool.true_and]; first | (rw [← e36];  simp [q21, q26, q31, q52]; done) | (exfalso; simp [q21, q26, q31] at q52; done) | (rw [← e36];  simp [q21, q26, q31, q52]; omega) , hk2.tr (k37)⟩ (Nat.le_trans (m := 120) (by show cC + 2 ≤ 120; omega) (by decide)) (Nat.le_trans (m := 3840) (by show cS + 64 ≤ 3840; omega) (by decide)) d_p6m13_114
          · -- not taken: 75
            refine lv_aload_n hx hb d_p6m13_75 rfl (lv_at hl 2 rfl) ?_
            refine pd_cV (a := a) (As := []) (rest := []) X w hw1 rfl (c_String_length l G h2 (by assumption)) ok_String_length ⟨mT_93, mT_94⟩ mT_638 ⟨by decide, by decide⟩ rfl hl.1 rfl (Nat.le_of_ble_eq_true rfl) d_p6m13_76 ⟨Nat.le_trans (m := 120) (by show cC + 0 ≤ 120; omega) (by decide), Nat.le_trans (m := 3840) (by show cS + 0 ≤ 3840; omega) (by decide)⟩ (fun r53 h54 H locs hp55 w => ?_)
            refine W.widen (k := cC) (n := cS) (by show cC + 0 ≤ cC; omega) (by show cS + 0 ≤ cS; omega) ?_
            obtain ⟨e56, rfl⟩ := hp55
            refine lv_iload_n hx hb d_p6m13_79 rfl (lv_at hl 1 rfl) ?_
            refine lv_iconst (v := nI 2) hx hb d_p6m13_80 (by decide) ?_
            refine pd_iadd hx hb d_p6m13_81 ?_
            refine pd_jne (tgt := 89) hx hb d_p6m13_82 (by decide) (by omega) (by omega) (fun q57 => ?_) (fun q57 => ?_)
            · -- taken: 89
              refine lv_iconst (v := nI 0) hx hb d_p6m13_89 (by decide) ?_
              refine lv_istore_n (lv' := [(2, .int (nI 0)), (1, .int (nI k)), (0, .ref a)]) hx hb d_p6m13_90 rfl hl (by decide) rfl (fun ls hl => ?_)
              refine lv_iload_n hx hb d_p6m13_91 rfl (lv_at hl 0 rfl) ?_
              refine pd_zne (tgt := 109) hx hb d_p6m13_92 (by decide) (by decide) (fun q => absurd q (by decide)) (fun _ => ?_)
              refine lv_aload_n hx hb d_p6m13_95 rfl (lv_at hl 2 rfl) ?_
              refine lv_iload_n hx hb d_p6m13_96 rfl (lv_at hl 1 rfl) ?_
              refine lv_iconst (v := nI 1) hx hb d_p6m13_97 (by decide) ?_
              refine pd_iadd hx hb d_p6m13_98 ?_
              refine pd_cS (As := [.ref a, .int (nI (k + 1))]) (rest := []) X w (c_Grammar_typeEnd l G h2 (by assumption) (by omega)) ok_Grammar_typeEnd mT_721 mT_720 ⟨by decide, by decide⟩ rfl hl.1 rfl (Nat.le_of_ble_eq_true rfl) d_p6m13_99 ⟨Nat.le_trans (m := 120) (by show cC + 2 ≤ 120; omega) (by decide), Nat.le_trans (m := 3840) (by show cS + 64 ≤ 3840; omega) (by decide)⟩ (fun r59 h60 H locs hp61 w => ?_)
              refine W.widen (k := cC + 2) (n := cS + 64) (by show cC + 2 ≤ cC + 2; omega) (by show cS + 64 ≤ cS + 64; omega) ?_
              obtain ⟨e62, k63⟩ := hp61
              have f64 := k63 _ _ hw1 List.not_mem_nil
              have f65 := k63 _ _ hw2 List.not_mem_nil
              have f66 := hs2.kx k63 List.not_mem_nil
              rcases q68 : r59 with _ | j67
              · -- none
                rw [q68] at e62
                refine W.eq (g2 := F0 m 102 ls [.int (-1)]) rfl ?_
                refine lv_aload_n hx hb d_p6m13_102 rfl (lv_at hl 2 rfl) ?_
                refine pd_cV (a := a) (As := []) (rest := [.int (-1)]) X w f64 rfl (c_String_length l G h60 (by assumption)) ok_String_length ⟨mT_93, mT_94⟩ mT_638 ⟨by decide, by decide⟩ rfl hl.1 rfl (Nat.le_of_ble_eq_true rfl) d_p6m13_103 ⟨Nat.le_trans (m := 120) (by show cC + 2 + 0 ≤ 120; omega) (by decide), Nat.le_trans (m := 3840) (by show cS + 64 + 0 ≤ 3840; omega) (by decide)⟩ (fun r69 h70 H locs hp71 w => ?_)
                refine W.widen (k := cC + 2) (n := cS + 64) (by show cC + 2 + 0 ≤ cC + 2; omega) (by show cS + 64 + 0 ≤ cS + 64; omega) ?_
                obtain ⟨e72, rfl⟩ := hp71
                refine lv_icmp_ne (tgt := 113) hx hb d_p6m13_106 (by decide) (fun _ => ?_) (fun q => absurd q (pd_m1 (by omega)))
                refine lv_iconst (v := nI 0) hx hb d_p6m13_113 (by decide) ?_
                try rw [e20] at q21
                try rw [e25] at q26
                try rw [e30] at q31
                try rw [e56] at q57
                refine W.eq (g2 := F0 m 114 ls [.int (pd_b false)]) rfl ?_
                exact pd_zret (v := false) X w ⟨by unfold gr_shape; rw [hend, h40]; simp only [Bool.true_and]; first | (rw [← e62];  simp [q21, q26, q31, q57]; done) | (exfalso; simp [q21, q26, q31] at q57; done) | (rw [← e62];  simp [q21, q26, q31, q57]; omega) , hk2.tr (k63)⟩ (Nat.le_trans (m := 120) (by show cC + 2 ≤ 120; omega) (by decide)) (Nat.le_trans (m := 3840) (by show cS + 64 ≤ 3840; omega) (by decide)) d_p6m13_114
              · -- some
                rw [q68] at e62
                have j67le := gr_te_le e62.symm
                refine W.eq (g2 := F0 m 102 ls [.int (nI j67)]) rfl ?_
                refine lv_aload_n hx hb d_p6m13_102 rfl (lv_at hl 2 rfl) ?_
                refine pd_cV (a := a) (As := []) (rest := [.int (nI j67)]) X w f64 rfl (c_String_length l G h60 (by assumption)) ok_String_length ⟨mT_93, mT_94⟩ mT_638 ⟨by decide, by decide⟩ rfl hl.1 rfl (Nat.le_of_ble_eq_true rfl) d_p6m13_103 ⟨Nat.le_trans (m := 120) (by show cC + 2 + 0 ≤ 120; omega) (by decide), Nat.le_trans (m := 3840) (by show cS + 64 + 0 ≤ 3840; omega) (by decide)⟩ (fun r74 h75 H locs hp76 w => ?_)
                refine W.widen (k := cC + 2) (n := cS + 64) (by show cC + 2 + 0 ≤ cC + 2; omega) (by show cS + 64 + 0 ≤ cS + 64; omega) ?_
                obtain ⟨e77, rfl⟩ := hp76
                refine pd_jne (tgt := 113) hx hb d_p6m13_106 (by decide) (by omega) (by omega) (fun q78 => ?_) (fun q78 => ?_)
                · -- taken: 113
                  refine lv_iconst (v := nI 0) hx hb d_p6m13_113 (by decide) ?_
                  try rw [e20] at q21
                  try rw [e25] at q26
                  try rw [e30] at q31
                  try rw [e56] at q57
                  try rw [e77] at q78
                  refine W.eq (g2 := F0 m 114 ls [.int (pd_b false)]) rfl ?_
                  exact pd_zret (v := false) X w ⟨by unfold gr_shape; rw [hend, h40]; simp only [Bool.true_and]; first | (rw [← e62];  simp [q21, q26, q31, q57, q78]; done) | (exfalso; simp [q21, q26, q31, q57] at q78; done) | (rw [← e62];  simp [q21, q26, q31, q57, q78]; omega) , hk2.tr (k63)⟩ (Nat.le_trans (m := 120) (by show cC + 2 ≤ 120; omega) (by decide)) (Nat.le_trans (m := 3840) (by show cS + 64 ≤ 3840; omega) (by decide)) d_p6m13_114
                · -- not taken: 109
                  refine lv_iconst (v := nI 1) hx hb d_p6m13_109 (by decide) ?_
                  refine lv_goto (tgt := 114) hx hb d_p6m13_110 (by decide) ?_
                  try rw [e20] at q21
                  try rw [e25] at q26
                  try rw [e30] at q31
                  try rw [e56] at q57
                  try rw [e77] at q78
                  refine W.eq (g2 := F0 m 114 ls [.int (pd_b true)]) rfl ?_
                  exact pd_zret (v := true) X w ⟨by unfold gr_shape; rw [hend, h40]; simp only [Bool.true_and]; first | (rw [← e62];  simp [q21, q26, q31, q57, q78]; done) | (exfalso; simp [q21, q26, q31, q57] at q78; done) | (rw [← e62];  simp [q21, q26, q31, q57, q78]; omega) , hk2.tr (k63)⟩ (Nat.le_trans (m := 120) (by show cC + 2 ≤ 120; omega) (by decide)) (Nat.le_trans (m := 3840) (by show cS + 64 ≤ 3840; omega) (by decide)) d_p6m13_114
            · -- not taken: 85
              refine lv_iconst (v := nI 1) hx hb d_p6m13_85 (by decide) ?_
              refine lv_goto (tgt := 90) hx hb d_p6m13_86 (by decide) ?_
              refine lv_istore_n (lv' := [(2, .int (nI 1)), (1, .int (nI k)), (0, .ref a)]) hx hb d_p6m13_90 rfl hl (by decide) rfl (fun ls hl => ?_)
              refine lv_iload_n hx hb d_p6m13_91 rfl (lv_at hl 0 rfl) ?_
              refine pd_zne (tgt := 109) hx hb d_p6m13_92 (by decide) (by decide) (fun _ => ?_) (fun q => absurd q (by decide))
              refine lv_iconst (v := nI 1) hx hb d_p6m13_109 (by decide) ?_
              refine lv_goto (tgt := 114) hx hb d_p6m13_110 (by decide) ?_
              try rw [e20] at q21
              try rw [e25] at q26
              try rw [e30] at q31
              try rw [e56] at q57
              refine W.eq (g2 := F0 m 114 ls [.int (pd_b true)]) rfl ?_
              exact pd_zret (v := true) X w ⟨by unfold gr_shape; rw [hend, h40]; simp only [Bool.true_and]; first | ( simp [q21, q26, q31, q57]; done) | (exfalso; simp [q21, q26, q31] at q57; done) | ( simp [q21, q26, q31, q57]; omega) , hk2⟩ (Nat.le_trans (m := 120) (by show cC ≤ 120; omega) (by decide)) (Nat.le_trans (m := 3840) (by show cS ≤ 3840; omega) (by decide)) d_p6m13_114
        · -- not taken: 61
          refine lv_iconst (v := nI 0) hx hb d_p6m13_61 (by decide) ?_
          try rw [e20] at q21
          try rw [e25] at q26
          refine W.eq (g2 := F0 m 62 ls [.int (pd_b false)]) rfl ?_
          exact pd_zret (v := false) X w ⟨by unfold gr_shape; rw [hend, h40]; simp only [Bool.true_and]; first | ( simp [q21, q26]; done) | (exfalso; simp [q21] at q26; done) | ( simp [q21, q26]; omega) , hk2⟩ (Nat.le_trans (m := 120) (by show cC ≤ 120; omega) (by decide)) (Nat.le_trans (m := 3840) (by show cS ≤ 3840; omega) (by decide)) d_p6m13_62
      · -- not taken: 24
        refine lv_iload_n hx hb d_p6m13_24 rfl (lv_at hl 1 rfl) ?_
        refine lv_iconst (v := -1) hx hb d_p6m13_25 (by decide) ?_
        refine lv_icmp_eq (tgt := 51) hx hb d_p6m13_26 (by decide) (fun q => absurd q.symm (pd_m1 (by omega))) (fun _ => ?_)
        refine lv_aload_n hx hb d_p6m13_29 rfl (lv_at hl 2 rfl) ?_
        refine lv_iload_n hx hb d_p6m13_30 rfl (lv_at hl 1 rfl) ?_
        refine lv_bipush (v := nI 41) hx hb d_p6m13_31 (by decide) ?_
        refine pd_cS (As := [.ref a, .int (nI k), .int (nI 41)]) (rest := []) X w (c_Grammar_isAt l G h2 (by assumption) (by omega) (by omega)) ok_Grammar_isAt mT_741 mT_740 ⟨by decide, by decide⟩ rfl hl.1 rfl (Nat.le_of_ble_eq_true rfl) d_p6m13_33 ⟨Nat.le_trans (m := 120) (by show cC + 0 ≤ 120; omega) (by decide), Nat.le_trans (m := 3840) (by show cS + 0 ≤ 3840; omega) (by decide)⟩ (fun r81 h82 H locs hp83 w => ?_)
        refine W.widen (k := cC) (n := cS) (by show cC + 0 ≤ cC; omega) (by show cS + 0 ≤ cS; omega) ?_
        obtain ⟨e84, rfl⟩ := hp83
        refine pd_bne (tgt := 51) hx hb d_p6m13_36 (by decide) (fun q85 => ?_) (fun q85 => ?_)
        · -- taken: 51
          have hend : gr_shl cs (cs.length - 1) (some 1) = some k := hv.symm.trans (gr_shl_t (e84.symm.trans q85))
          refine lv_aload_n hx hb d_p6m13_51 rfl (lv_at hl 2 rfl) ?_
          refine lv_iload_n hx hb d_p6m13_52 rfl (lv_at hl 1 rfl) ?_
          refine lv_bipush (v := nI 41) hx hb d_p6m13_53 (by decide) ?_
          refine pd_cS (As := [.ref a, .int (nI k), .int (nI 41)]) (rest := []) X w (c_Grammar_isAt l G h2 (by assumption) (by omega) (by omega)) ok_Grammar_isAt mT_741 mT_740 ⟨by decide, by decide⟩ rfl hl.1 rfl (Nat.le_of_ble_eq_true rfl) d_p6m13_55 ⟨Nat.le_trans (m := 120) (by show cC + 0 ≤ 120; omega) (by decide), Nat.le_trans (m := 3840) (by show cS + 0 ≤ 3840; omega) (by decide)⟩ (fun r86 h87 H locs hp88 w => ?_)
          refine W.widen (k := cC) (n := cS) (by show cC + 0 ≤ cC; omega) (by show cS + 0 ≤ cS; omega) ?_
          obtain ⟨e89, rfl⟩ := hp88
          refine pd_bne (tgt := 63) hx hb d_p6m13_58 (by decide) (fun q90 => ?_) (fun q90 => ?_)
          · -- taken: 63
            refine lv_aload_n hx hb d_p6m13_63 rfl (lv_at hl 2 rfl) ?_
            refine lv_iload_n hx hb d_p6m13_64 rfl (lv_at hl 1 rfl) ?_
            refine lv_iconst (v := nI 1) hx hb d_p6m13_65 (by decide) ?_
            refine pd_iadd hx hb d_p6m13_66 ?_
            refine lv_bipush (v := nI 86) hx hb d_p6m13_67 (by decide) ?_
            refine pd_cS (As := [.ref a, .int (nI (k + 1)), .int (nI 86)]) (rest := []) X w (c_Grammar_isAt l G h2 (by assumption) (by omega) (by omega)) ok_Grammar_isAt mT_741 mT_740 ⟨by decide, by decide⟩ rfl hl.1 rfl (Nat.le_of_ble_eq_true rfl) d_p6m13_69 ⟨Nat.le_trans (m := 120) (by show cC + 0 ≤ 120; omega) (by decide), Nat.le_trans (m := 3840) (by show cS + 0 ≤ 3840; omega) (by decide)⟩ (fun r91 h92 H locs hp93 w => ?_)
            refine W.widen (k := cC) (n := cS) (by show cC + 0 ≤ cC; omega) (by show cS + 0 ≤ cS; omega) ?_
            obtain ⟨e94, rfl⟩ := hp93
            refine pd_beq (tgt := 89) hx hb d_p6m13_72 (by decide) (fun q95 => ?_) (fun q95 => ?_)
            · -- taken: 89
              refine lv_iconst (v := nI 0) hx hb d_p6m13_89 (by decide) ?_
              refine lv_istore_n (lv' := [(2, .int (nI 0)), (1, .int (nI k)), (0, .ref a)]) hx hb d_p6m13_90 rfl hl (by decide) rfl (fun ls hl => ?_)
              refine lv_iload_n hx hb d_p6m13_91 rfl (lv_at hl 0 rfl) ?_
              refine pd_zne (tgt := 109) hx hb d_p6m13_92 (by decide) (by decide) (fun q => absurd q (by decide)) (fun _ => ?_)
              refine lv_aload_n hx hb d_p6m13_95 rfl (lv_at hl 2 rfl) ?_
              refine lv_iload_n hx hb d_p6m13_96 rfl (lv_at hl 1 rfl) ?_
              refine lv_iconst (v := nI 1) hx hb d_p6m13_97 (by decide) ?_
              refine pd_iadd hx hb d_p6m13_98 ?_
              refine pd_cS (As := [.ref a, .int (nI (k + 1))]) (rest := []) X w (c_Grammar_typeEnd l G h2 (by assumption) (by omega)) ok_Grammar_typeEnd mT_721 mT_720 ⟨by decide, by decide⟩ rfl hl.1 rfl (Nat.le_of_ble_eq_true rfl) d_p6m13_99 ⟨Nat.le_trans (m := 120) (by show cC + 2 ≤ 120; omega) (by decide), Nat.le_trans (m := 3840) (by show cS + 64 ≤ 3840; omega) (by decide)⟩ (fun r97 h98 H locs hp99 w => ?_)
              refine W.widen (k := cC + 2) (n := cS + 64) (by show cC + 2 ≤ cC + 2; omega) (by show cS + 64 ≤ cS + 64; omega) ?_
              obtain ⟨e100, k101⟩ := hp99
              have f102 := k101 _ _ hw1 List.not_mem_nil
              have f103 := k101 _ _ hw2 List.not_mem_nil
              have f104 := hs2.kx k101 List.not_mem_nil
              rcases q106 : r97 with _ | j105
              · -- none
                rw [q106] at e100
                refine W.eq (g2 := F0 m 102 ls [.int (-1)]) rfl ?_
                refine lv_aload_n hx hb d_p6m13_102 rfl (lv_at hl 2 rfl) ?_
                refine pd_cV (a := a) (As := []) (rest := [.int (-1)]) X w f102 rfl (c_String_length l G h98 (by assumption)) ok_String_length ⟨mT_93, mT_94⟩ mT_638 ⟨by decide, by decide⟩ rfl hl.1 rfl (Nat.le_of_ble_eq_true rfl) d_p6m13_103 ⟨Nat.le_trans (m := 120) (by show cC + 2 + 0 ≤ 120; omega) (by decide), Nat.le_trans (m := 3840) (by show cS + 64 + 0 ≤ 3840; omega) (by decide)⟩ (fun r107 h108 H locs hp109 w => ?_)
                refine W.widen (k := cC + 2) (n := cS + 64) (by show cC + 2 + 0 ≤ cC + 2; omega) (by show cS + 64 + 0 ≤ cS + 64; omega) ?_
                obtain ⟨e110, rfl⟩ := hp109
                refine lv_icmp_ne (tgt := 113) hx hb d_p6m13_106 (by decide) (fun _ => ?_) (fun q => absurd q (pd_m1 (by omega)))
                refine lv_iconst (v := nI 0) hx hb d_p6m13_113 (by decide) ?_
                try rw [e20] at q21
                try rw [e84] at q85
                try rw [e89] at q90
                try rw [e94] at q95
                refine W.eq (g2 := F0 m 114 ls [.int (pd_b false)]) rfl ?_
                exact pd_zret (v := false) X w ⟨by unfold gr_shape; rw [hend, h40]; simp only [Bool.true_and]; first | (rw [← e100];  simp [q21, q85, q90, q95]; done) | (exfalso; simp [q21, q85, q90] at q95; done) | (rw [← e100];  simp [q21, q85, q90, q95]; omega) , hk2.tr (k101)⟩ (Nat.le_trans (m := 120) (by show cC + 2 ≤ 120; omega) (by decide)) (Nat.le_trans (m := 3840) (by show cS + 64 ≤ 3840; omega) (by decide)) d_p6m13_114
              · -- some
                rw [q106] at e100
                have j105le := gr_te_le e100.symm
                refine W.eq (g2 := F0 m 102 ls [.int (nI j105)]) rfl ?_
                refine lv_aload_n hx hb d_p6m13_102 rfl (lv_at hl 2 rfl) ?_
                refine pd_cV (a := a) (As := []) (rest := [.int (nI j105)]) X w f102 rfl (c_String_length l G h98 (by assumption)) ok_String_length ⟨mT_93, mT_94⟩ mT_638 ⟨by decide, by decide⟩ rfl hl.1 rfl (Nat.le_of_ble_eq_true rfl) d_p6m13_103 ⟨Nat.le_trans (m := 120) (by show cC + 2 + 0 ≤ 120; omega) (by decide), Nat.le_trans (m := 3840) (by show cS + 64 + 0 ≤ 3840; omega) (by decide)⟩ (fun r112 h113 H locs hp114 w => ?_)
                refine W.widen (k := cC + 2) (n := cS + 64) (by show cC + 2 + 0 ≤ cC + 2; omega) (by show cS + 64 + 0 ≤ cS + 64; omega) ?_
                obtain ⟨e115, rfl⟩ := hp114
                refine pd_jne (tgt := 113) hx hb d_p6m13_106 (by decide) (by omega) (by omega) (fun q116 => ?_) (fun q116 => ?_)
                · -- taken: 113
                  refine lv_iconst (v := nI 0) hx hb d_p6m13_113 (by decide) ?_
                  try rw [e20] at q21
                  try rw [e84] at q85
                  try rw [e89] at q90
                  try rw [e94] at q95
                  try rw [e115] at q116
                  refine W.eq (g2 := F0 m 114 ls [.int (pd_b false)]) rfl ?_
                  exact pd_zret (v := false) X w ⟨by unfold gr_shape; rw [hend, h40]; simp only [Bool.true_and]; first | (rw [← e100];  simp [q21, q85, q90, q95, q116]; done) | (exfalso; simp [q21, q85, q90, q95] at q116; done) | (rw [← e100];  simp [q21, q85, q90, q95, q116]; omega) , hk2.tr (k101)⟩ (Nat.le_trans (m := 120) (by show cC + 2 ≤ 120; omega) (by decide)) (Nat.le_trans (m := 3840) (by show cS + 64 ≤ 3840; omega) (by decide)) d_p6m13_114
                · -- not taken: 109
                  refine lv_iconst (v := nI 1) hx hb d_p6m13_109 (by decide) ?_
                  refine lv_goto (tgt := 114) hx hb d_p6m13_110 (by decide) ?_
                  try rw [e20] at q21
                  try rw [e84] at q85
                  try rw [e89] at q90
                  try rw [e94] at q95
                  try rw [e115] at q116
                  refine W.eq (g2 := F0 m 114 ls [.int (pd_b true)]) rfl ?_
                  exact pd_zret (v := true) X w ⟨by unfold gr_shape; rw [hend, h40]; simp only [Bool.true_and]; first | (rw [← e100];  simp [q21, q85, q90, q95, q116]; done) | (exfalso; simp [q21, q85, q90, q95] at q116; done) | (rw [← e100];  simp [q21, q85, q90, q95, q116]; omega) , hk2.tr (k101)⟩ (Nat.le_trans (m := 120) (by show cC + 2 ≤ 120; omega) (by decide)) (Nat.le_trans (m := 3840) (by show cS + 64 ≤ 3840; omega) (by decide)) d_p6m13_114
            · -- not taken: 75
              refine lv_aload_n hx hb d_p6m13_75 rfl (lv_at hl 2 rfl) ?_
              refine pd_cV (a := a) (As := []) (rest := []) X w hw1 rfl (c_String_length l G h2 (by assumption)) ok_String_length ⟨mT_93, mT_94⟩ mT_638 ⟨by decide, by decide⟩ rfl hl.1 rfl (Nat.le_of_ble_eq_true rfl) d_p6m13_76 ⟨Nat.le_trans (m := 120) (by show cC + 0 ≤ 120; omega) (by decide), Nat.le_trans (m := 3840) (by show cS + 0 ≤ 3840; omega) (by decide)⟩ (fun r117 h118 H locs hp119 w => ?_)
              refine W.widen (k := cC) (n := cS) (by show cC + 0 ≤ cC; omega) (by show cS + 0 ≤ cS; omega) ?_
              obtain ⟨e120, rfl⟩ := hp119
              refine lv_iload_n hx hb d_p6m13_79 rfl (lv_at hl 1 rfl) ?_
              refine lv_iconst (v := nI 2) hx hb d_p6m13_80 (by decide) ?_
              refine pd_iadd hx hb d_p6m13_81 ?_
              refine pd_jne (tgt := 89) hx hb d_p6m13_82 (by decide) (by omega) (by omega) (fun q121 => ?_) (fun q121 => ?_)
              · -- taken: 89
                refine lv_iconst (v := nI 0) hx hb d_p6m13_89 (by decide) ?_
                refine lv_istore_n (lv' := [(2, .int (nI 0)), (1, .int (nI k)), (0, .ref a)]) hx hb d_p6m13_90 rfl hl (by decide) rfl (fun ls hl => ?_)
                refine lv_iload_n hx hb d_p6m13_91 rfl (lv_at hl 0 rfl) ?_
                refine pd_zne (tgt := 109) hx hb d_p6m13_92 (by decide) (by decide) (fun q => absurd q (by decide)) (fun _ => ?_)
                refine lv_aload_n hx hb d_p6m13_95 rfl (lv_at hl 2 rfl) ?_
                refine lv_iload_n hx hb d_p6m13_96 rfl (lv_at hl 1 rfl) ?_
                refine lv_iconst (v := nI 1) hx hb d_p6m13_97 (by decide) ?_
                refine pd_iadd hx hb d_p6m13_98 ?_
                refine pd_cS (As := [.ref a, .int (nI (k + 1))]) (rest := []) X w (c_Grammar_typeEnd l G h2 (by assumption) (by omega)) ok_Grammar_typeEnd mT_721 mT_720 ⟨by decide, by decide⟩ rfl hl.1 rfl (Nat.le_of_ble_eq_true rfl) d_p6m13_99 ⟨Nat.le_trans (m := 120) (by show cC + 2 ≤ 120; omega) (by decide), Nat.le_trans (m := 3840) (by show cS + 64 ≤ 3840; omega) (by decide)⟩ (fun r123 h124 H locs hp125 w => ?_)
                refine W.widen (k := cC + 2) (n := cS + 64) (by show cC + 2 ≤ cC + 2; omega) (by show cS + 64 ≤ cS + 64; omega) ?_
                obtain ⟨e126, k127⟩ := hp125
                have f128 := k127 _ _ hw1 List.not_mem_nil
                have f129 := k127 _ _ hw2 List.not_mem_nil
                have f130 := hs2.kx k127 List.not_mem_nil
                rcases q132 : r123 with _ | j131
                · -- none
                  rw [q132] at e126
                  refine W.eq (g2 := F0 m 102 ls [.int (-1)]) rfl ?_
                  refine lv_aload_n hx hb d_p6m13_102 rfl (lv_at hl 2 rfl) ?_
                  refine pd_cV (a := a) (As := []) (rest := [.int (-1)]) X w f128 rfl (c_String_length l G h124 (by assumption)) ok_String_length ⟨mT_93, mT_94⟩ mT_638 ⟨by decide, by decide⟩ rfl hl.1 rfl (Nat.le_of_ble_eq_true rfl) d_p6m13_103 ⟨Nat.le_trans (m := 120) (by show cC + 2 + 0 ≤ 120; omega) (by decide), Nat.le_trans (m := 3840) (by show cS + 64 + 0 ≤ 3840; omega) (by decide)⟩ (fun r133 h134 H locs hp135 w => ?_)
                  refine W.widen (k := cC + 2) (n := cS + 64) (by show cC + 2 + 0 ≤ cC + 2; omega) (by show cS + 64 + 0 ≤ cS + 64; omega) ?_
                  obtain ⟨e136, rfl⟩ := hp135
                  refine lv_icmp_ne (tgt := 113) hx hb d_p6m13_106 (by decide) (fun _ => ?_) (fun q => absurd q (pd_m1 (by omega)))
                  refine lv_iconst (v := nI 0) hx hb d_p6m13_113 (by decide) ?_
                  try rw [e20] at q21
                  try rw [e84] at q85
                  try rw [e89] at q90
                  try rw [e94] at q95
                  try rw [e120] at q121
                  refine W.eq (g2 := F0 m 114 ls [.int (pd_b false)]) rfl ?_
                  exact pd_zret (v := false) X w ⟨by unfold gr_shape; rw [hend, h40]; simp only [Bool.true_and]; first | (rw [← e126];  simp [q21, q85, q90, q95, q121]; done) | (exfalso; simp [q21, q85, q90, q95] at q121; done) | (rw [← e126];  simp [q21, q85, q90, q95, q121]; omega) , hk2.tr (k127)⟩ (Nat.le_trans (m := 120) (by show cC + 2 ≤ 120; omega) (by decide)) (Nat.le_trans (m := 3840) (by show cS + 64 ≤ 3840; omega) (by decide)) d_p6m13_114
                · -- some
                  rw [q132] at e126
                  have j131le := gr_te_le e126.symm
                  refine W.eq (g2 := F0 m 102 ls [.int (nI j131)]) rfl ?_
                  refine lv_aload_n hx hb d_p6m13_102 rfl (lv_at hl 2 rfl) ?_
                  refine pd_cV (a := a) (As := []) (rest := [.int (nI j131)]) X w f128 rfl (c_String_length l G h124 (by assumption)) ok_String_length ⟨mT_93, mT_94⟩ mT_638 ⟨by decide, by decide⟩ rfl hl.1 rfl (Nat.le_of_ble_eq_true rfl) d_p6m13_103 ⟨Nat.le_trans (m := 120) (by show cC + 2 + 0 ≤ 120; omega) (by decide), Nat.le_trans (m := 3840) (by show cS + 64 + 0 ≤ 3840; omega) (by decide)⟩ (fun r138 h139 H locs hp140 w => ?_)
                  refine W.widen (k := cC + 2) (n := cS + 64) (by show cC + 2 + 0 ≤ cC + 2; omega) (by show cS + 64 + 0 ≤ cS + 64; omega) ?_
                  obtain ⟨e141, rfl⟩ := hp140
                  refine pd_jne (tgt := 113) hx hb d_p6m13_106 (by decide) (by omega) (by omega) (fun q142 => ?_) (fun q142 => ?_)
                  · -- taken: 113
                    refine lv_iconst (v := nI 0) hx hb d_p6m13_113 (by decide) ?_
                    try rw [e20] at q21
                    try rw [e84] at q85
                    try rw [e89] at q90
                    try rw [e94] at q95
                    try rw [e120] at q121
                    try rw [e141] at q142
                    refine W.eq (g2 := F0 m 114 ls [.int (pd_b false)]) rfl ?_
                    exact pd_zret (v := false) X w ⟨by unfold gr_shape; rw [hend, h40]; simp only [Bool.true_and]; first | (rw [← e126];  simp [q21, q85, q90, q95, q121, q142]; done) | (exfalso; simp [q21, q85, q90, q95, q121] at q142; done) | (rw [← e126];  simp [q21, q85, q90, q95, q121, q142]; omega) , hk2.tr (k127)⟩ (Nat.le_trans (m := 120) (by show cC + 2 ≤ 120; omega) (by decide)) (Nat.le_trans (m := 3840) (by show cS + 64 ≤ 3840; omega) (by decide)) d_p6m13_114
                  · -- not taken: 109
                    refine lv_iconst (v := nI 1) hx hb d_p6m13_109 (by decide) ?_
                    refine lv_goto (tgt := 114) hx hb d_p6m13_110 (by decide) ?_
                    try rw [e20] at q21
                    try rw [e84] at q85
                    try rw [e89] at q90
                    try rw [e94] at q95
                    try rw [e120] at q121
                    try rw [e141] at q142
                    refine W.eq (g2 := F0 m 114 ls [.int (pd_b true)]) rfl ?_
                    exact pd_zret (v := true) X w ⟨by unfold gr_shape; rw [hend, h40]; simp only [Bool.true_and]; first | (rw [← e126];  simp [q21, q85, q90, q95, q121, q142]; done) | (exfalso; simp [q21, q85, q90, q95, q121] at q142; done) | (rw [← e126];  simp [q21, q85, q90, q95, q121, q142]; omega) , hk2.tr (k127)⟩ (Nat.le_trans (m := 120) (by show cC + 2 ≤ 120; omega) (by decide)) (Nat.le_trans (m := 3840) (by show cS + 64 ≤ 3840; omega) (by decide)) d_p6m13_114
              · -- not taken: 85
                refine lv_iconst (v := nI 1) hx hb d_p6m13_85 (by decide) ?_
                refine lv_goto (tgt := 90) hx hb d_p6m13_86 (by decide) ?_
                refine lv_istore_n (lv' := [(2, .int (nI 1)), (1, .int (nI k)), (0, .ref a)]) hx hb d_p6m13_90 rfl hl (by decide) rfl (fun ls hl => ?_)
                refine lv_iload_n hx hb d_p6m13_91 rfl (lv_at hl 0 rfl) ?_
                refine pd_zne (tgt := 109) hx hb d_p6m13_92 (by decide) (by decide) (fun _ => ?_) (fun q => absurd q (by decide))
                refine lv_iconst (v := nI 1) hx hb d_p6m13_109 (by decide) ?_
                refine lv_goto (tgt := 114) hx hb d_p6m13_110 (by decide) ?_
                try rw [e20] at q21
                try rw [e84] at q85
                try rw [e89] at q90
                try rw [e94] at q95
                try rw [e120] at q121
                refine W.eq (g2 := F0 m 114 ls [.int (pd_b true)]) rfl ?_
                exact pd_zret (v := true) X w ⟨by unfold gr_shape; rw [hend, h40]; simp only [Bool.true_and]; first | ( simp [q21, q85, q90, q95, q121]; done) | (exfalso; simp [q21, q85, q90, q95] at q121; done) | ( simp [q21, q85, q90, q95, q121]; omega) , hk2⟩ (Nat.le_trans (m := 120) (by show cC ≤ 120; omega) (by decide)) (Nat.le_trans (m := 3840) (by show cS ≤ 3840; omega) (by decide)) d_p6m13_114
          · -- not taken: 61
            refine lv_iconst (v := nI 0) hx hb d_p6m13_61 (by decide) ?_
            try rw [e20] at q21
            try rw [e84] at q85
            try rw [e89] at q90
            refine W.eq (g2 := F0 m 62 ls [.int (pd_b false)]) rfl ?_
            exact pd_zret (v := false) X w ⟨by unfold gr_shape; rw [hend, h40]; simp only [Bool.true_and]; first | ( simp [q21, q85, q90]; done) | (exfalso; simp [q21, q85] at q90; done) | ( simp [q21, q85, q90]; omega) , hk2⟩ (Nat.le_trans (m := 120) (by show cC ≤ 120; omega) (by decide)) (Nat.le_trans (m := 3840) (by show cS ≤ 3840; omega) (by decide)) d_p6m13_62
        · -- not taken: 39
          refine lv_aload_n hx hb d_p6m13_39 rfl (lv_at hl 2 rfl) ?_
          refine lv_iload_n hx hb d_p6m13_40 rfl (lv_at hl 1 rfl) ?_
          refine pd_cS (As := [.ref a, .int (nI k)]) (rest := []) X w (c_Grammar_typeEnd l G h2 (by assumption) (by omega)) ok_Grammar_typeEnd mT_721 mT_720 ⟨by decide, by decide⟩ rfl hl.1 rfl (Nat.le_of_ble_eq_true rfl) d_p6m13_41 ⟨Nat.le_trans (m := 120) (by show cC + 2 ≤ 120; omega) (by decide), Nat.le_trans (m := 3840) (by show cS + 64 ≤ 3840; omega) (by decide)⟩ (fun r144 h145 H locs hp146 w => ?_)
          refine W.widen (k := cC + 2) (n := cS + 64) (by show cC + 2 ≤ cC + 2; omega) (by show cS + 64 ≤ cS + 64; omega) ?_
          obtain ⟨e147, k148⟩ := hp146
          have f149 := k148 _ _ hw1 List.not_mem_nil
          have f150 := k148 _ _ hw2 List.not_mem_nil
          have f151 := hs2.kx k148 List.not_mem_nil
          refine lv_istore_n (lv' := [(1, .int (pd_m r144)), (2, .int (nI i)), (0, .ref a)]) hx hb d_p6m13_44 rfl hl (by decide) rfl (fun ls hl => ?_)
          refine pd_iinc (k := 1) (d := 1) (lv' := [(2, .int (nI (i + 1))), (1, .int (pd_m r144)), (0, .ref a)]) hx hb d_p6m13_45 (by decide) hl rfl (by decide) rfl (fun ls hl => ?_)
          refine lv_goto (tgt := 16) hx hb d_p6m13_48 (by decide) ?_
          exact ih (i + 1) r144 (cC + 2) (cS + 64) h145 (h40) (by omega) (by omega) (fun j hj => by have := gr_te_le (e147.symm.trans hj); omega) (by omega) (by omega) (hk2.tr (k148)) (f151) (by rw [show cs.length - (i + 1) = cs.length - i - 1 by omega, e147, ← gr_shl_s (by omega) (e84.symm.trans q85)]; exact hv) (by omega) _ _ w ls (lv_sub hl [0, 1, 2] rfl)
set_option maxHeartbeats 4000000 in
set_option maxRecDepth 100000 in
theorem c_Grammar_isShape (l : Launch) (G : pd_G) (h : pd_H) {a : Nat} {cs : List Nat} (hS : pd_Str h a cs) : pd_M l y_Grammar_isShape prog_6_method_13_code 3 (some .boolean) rm_Grammar_isShape G h [.ref a] pd_vb (fun r h1 => r = gr_shape cs ∧ pd_kx [] h h1) := by
  refine pd_M.of (by decide) (Nat.le_of_ble_eq_true rfl) ?_
  intro p e s m below meth c X hmn w ls hl
  have hx := X.1
  have hb := X.2.1
  have hl : lv_has ls 3 [(0, .ref a)] := hl
  obtain ⟨v1, f1, hv1, hv2, hvf, hvc, hvl⟩ := id hS
  refine lv_aload_n hx hb d_p6m13_0 rfl (lv_at hl 0 rfl) ?_
  refine lv_iconst (v := nI 0) hx hb d_p6m13_1 (by decide) ?_
  refine lv_bipush (v := nI 40) hx hb d_p6m13_2 (by decide) ?_
  refine pd_cS (As := [.ref a, .int (nI 0), .int (nI 40)]) (rest := []) X w (c_Grammar_isAt l G h (by assumption) (by omega) (by omega)) ok_Grammar_isAt mT_741 mT_740 ⟨by decide, by decide⟩ rfl hl.1 rfl (Nat.le_of_ble_eq_true rfl) d_p6m13_4 ⟨by decide, by decide⟩ (fun r1 h2 H locs hp3 w => ?_)
  refine W.widen (k := 0) (n := 0) (by decide) (by decide) ?_
  obtain ⟨e4, rfl⟩ := hp3
  refine pd_bne (tgt := 12) hx hb d_p6m13_7 (by decide) (fun q5 => ?_) (fun q5 => ?_)
  · -- taken: 12
    refine lv_iconst (v := nI 1) hx hb d_p6m13_12 (by decide) ?_
    refine lv_istore_n (lv' := [(1, .int (nI 1)), (0, .ref a)]) hx hb d_p6m13_13 rfl hl (by decide) rfl (fun ls hl => ?_)
    refine lv_iconst (v := nI 1) hx hb d_p6m13_14 (by decide) ?_
    refine lv_istore_n (lv' := [(2, .int (nI 1)), (1, .int (nI 1)), (0, .ref a)]) hx hb d_p6m13_15 rfl hl (by decide) rfl (fun ls hl => ?_)
    exact lp_Grammar_isShape_16 l G h hS X hmn (cs.length + 1) 1 (some 1) 0 0 h (e4.symm.trans q5) (by omega) (by omega) (fun k hk => by cases hk; decide) (by omega) (by omega) (pd_kx.rf) (hS) (rfl) (by omega) _ _ w ls (lv_sub hl [0, 1, 2] rfl)
  · -- not taken: 10
    refine lv_iconst (v := nI 0) hx hb d_p6m13_10 (by decide) ?_
    refine W.eq (g2 := F0 m 11 ls [.int (pd_b false)]) rfl ?_
    exact pd_zret (v := false) X w ⟨by unfold gr_shape; rw [← e4, q5]; rfl, pd_kx.rf⟩ (by decide) (by decide) d_p6m13_11
