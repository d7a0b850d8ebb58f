/-- the words -/
def gm_W (fv : Nat → Nat → Int32) (cs : List Nat) (nw : Nat) (sA eA : Nat → Nat) : Prop := nw ≤ 31 ∧ ∀ i, i < nw → fv 1 i = nI (sA i) ∧ fv 2 i = nI (eA i) ∧ sA i < eA i ∧ eA i ≤ cs.length
theorem gm_bn_le {cs : List Nat} {to x0 : Nat} : ∀ (n k : Nat), x0 ≤ k → k ≤ to → x0 ≤ gm_bn cs to x0 n k ∧ gm_bn cs to x0 n k ≤ to
  | 0, k, h1, h2 => ⟨h1, h2⟩
  | n + 1, k, h1, h2 => by
    rw [gm_bn]
    split
    · rename_i z
      have := gm_part_le (cs := cs) (x := k + 1) (to := to) (by omega)
      exact gm_bn_le n _ (by omega) (by omega)
    · exact ⟨h1, h2⟩
theorem gm_name_le {cs : List Nat} {x to : Nat} (h : x ≤ to) : x ≤ gm_name cs x to ∧ gm_name cs x to ≤ to := by
  have h1 := gm_part_le (cs := cs) h
  have h2 := gm_bn_le (cs := cs) (to := to) (x0 := x) to (gm_part cs x to) h1.1 h1.2
  unfold gm_name
  split
  · exact ⟨Nat.le_refl _, h⟩
  · exact h2
/-- behind the [ -/
def gm_br (cs : List Nat) (to : Nat) : Nat → Nat → Nat
  | 0, x => x
  | n + 1, x => if x < to ∧ cs.getD x 0 = 91 then gm_br cs to n (x + 1) else x
theorem gm_br_s {cs : List Nat} {to x : Nat} (h : x < to) (hp : cs.getD x 0 = 91) : gm_br cs to (to - x) x = gm_br cs to (to - (x + 1)) (x + 1) := by
  rw [show to - x = (to - (x + 1)) + 1 by omega, gm_br, if_pos ⟨h, hp⟩]
theorem gm_br_n {cs : List Nat} {to x n : Nat} (h : ¬ (x < to ∧ cs.getD x 0 = 91)) : gm_br cs to n x = x := by
  cases n with
  | zero => rfl
  | succ n => rw [gm_br, if_neg h]
theorem gm_br_le {cs : List Nat} {to : Nat} : ∀ (n x : Nat), x ≤ to → x ≤ gm_br cs to n x ∧ gm_br cs to n x ≤ to
  | 0, x, h => ⟨Nat.le_refl _, h⟩
  | n + 1, x, h => by
    rw [gm_br]
    split
    · rename_i z
      have := gm_br_le (cs := cs) (to := to) n (x + 1) (by omega)
      omega
    · exact ⟨Nat.le_refl _, h⟩
def gm_sty (c : Nat) : Bool := decide (c = 73 ∨ c = 74 ∨ c = 70 ∨ c = 68 ∨ c = 90 ∨ c = 66 ∨ c = 67 ∨ c = 83)
theorem gm_sty_t {c : Nat} (h : c = 73 ∨ c = 74 ∨ c = 70 ∨ c = 68 ∨ c = 90 ∨ c = 66 ∨ c = 67 ∨ c = 83) : gm_sty c = true := decide_eq_true h
theorem gm_sty_f {c : Nat} (h : ¬ (c = 73 ∨ c = 74 ∨ c = 70 ∨ c = 68 ∨ c = 90 ∨ c = 66 ∨ c = 67 ∨ c = 83)) : ¬ gm_sty c = true := fun z => h (of_decide_eq_true z)
def gm_tk (cs : List Nat) (k to : Nat) : Option Nat := if k = to then none else if gm_sty (cs.getD k 0) = true then some (k + 1) else if ¬ cs.getD k 0 = 76 then none else if k + 1 < gm_name cs (k + 1) to ∧ gm_name cs (k + 1) to < to ∧ cs.getD (gm_name cs (k + 1) to) 0 = 59 then some (gm_name cs (k + 1) to + 1) else none
def gm_type (cs : List Nat) (x to : Nat) : Option Nat := gm_tk cs (gm_br cs to (to - x) x) to
theorem gm_tk_le {cs : List Nat} {k to t : Nat} (h : gm_tk cs k to = some t) (hk : k ≤ to) : k < t ∧ t ≤ to := by
  unfold gm_tk at h
  split at h
  · cases h
  · split at h
    · cases h
      omega
    · split at h
      · cases h
      · split at h
        · cases h
          omega
        · cases h
theorem gm_type_le {cs : List Nat} {x to t : Nat} (h : gm_type cs x to = some t) (hx : x ≤ to) : x < t ∧ t ≤ to := by
  have h1 := gm_br_le (cs := cs) (to := to) (to - x) x hx
  have h2 := gm_tk_le h h1.2
  omega
theorem d_p15m11_0 : decode prog_15_method_11_code 0 = .ok (.aload_n 0, 1) := by decide +kernel
theorem d_p15m11_1 : decode prog_15_method_11_code 1 = .ok (.aload_n 0, 1) := by decide +kernel
theorem d_p15m11_2 : decode prog_15_method_11_code 2 = .ok (.getfield 13, 3) := by decide +kernel
theorem d_p15m11_5 : decode prog_15_method_11_code 5 = .ok (.iload_n 1, 1) := by decide +kernel
theorem d_p15m11_6 : decode prog_15_method_11_code 6 = .ok (.iaload, 1) := by decide +kernel
theorem d_p15m11_7 : decode prog_15_method_11_code 7 = .ok (.aload_n 0, 1) := by decide +kernel
theorem d_p15m11_8 : decode prog_15_method_11_code 8 = .ok (.getfield 16, 3) := by decide +kernel
theorem d_p15m11_11 : decode prog_15_method_11_code 11 = .ok (.iload_n 1, 1) := by decide +kernel
theorem d_p15m11_12 : decode prog_15_method_11_code 12 = .ok (.iaload, 1) := by decide +kernel
theorem d_p15m11_13 : decode prog_15_method_11_code 13 = .ok (.invokevirtual 127, 3) := by decide +kernel
theorem d_p15m11_16 : decode prog_15_method_11_code 16 = .ok (.aload_n 0, 1) := by decide +kernel
theorem d_p15m11_17 : decode prog_15_method_11_code 17 = .ok (.getfield 16, 3) := by decide +kernel
theorem d_p15m11_20 : decode prog_15_method_11_code 20 = .ok (.iload_n 1, 1) := by decide +kernel
theorem d_p15m11_21 : decode prog_15_method_11_code 21 = .ok (.iaload, 1) := by decide +kernel
theorem d_p15m11_22 : decode prog_15_method_11_code 22 = .ok (.if_icmp .ne 7, 3) := by decide +kernel
theorem d_p15m11_25 : decode prog_15_method_11_code 25 = .ok (.iconst 1, 1) := by decide +kernel
theorem d_p15m11_26 : decode prog_15_method_11_code 26 = .ok (.goto 4, 3) := by decide +kernel
theorem d_p15m11_29 : decode prog_15_method_11_code 29 = .ok (.iconst 0, 1) := by decide +kernel
theorem d_p15m11_30 : decode prog_15_method_11_code 30 = .ok (.ireturn, 1) := by decide +kernel
abbrev y_Mod_isName : MethodName := ⟨"PolicyDeskModel", "isName", "(I)Z"⟩
theorem ok_Mod_isName : pd_ok y_Mod_isName prog_15_method_11_code 2 (some .boolean) 1 := ⟨mT_1308, mT_21, by decide, by decide +kernel⟩
abbrev rm_Mod_isName : Room := { frames := 4, cells := 0, slots := 0, locals := 88 }
set_option maxHeartbeats 4000000 in
set_option maxRecDepth 100000 in
theorem c_Mod_isName (l : Launch) (G : pd_G) (h : pd_H) {y : Nat} {ad : Nat → Nat} {fv : Nat → Nat → Int32} {iv : Nat → Int32} {tl : Int64} {cs : List Nat} {nw i0 : Nat} {sA eA : Nat → Nat} (hMO : pd_MO G h y ad fv iv tl) (hL : gm_L fv iv cs) (hW : gm_W fv cs nw sA eA) (hiw : i0 < nw) : pd_M l y_Mod_isName prog_15_method_11_code 2 (some .boolean) rm_Mod_isName G h [.ref y, .int (nI i0)] pd_vb (fun r h1 => r = decide (gm_name cs (sA i0) (eA i0) = eA i0) ∧ h = h1) := by
  refine pd_M.of (by decide) (Nat.le_of_ble_eq_true rfl) ?_
  intro p e s m below meth c X hmn w ls hl
  have hx := X.1
  have hb := X.2.1
  have hl : lv_has ls 2 [(0, .ref y), (1, .int (nI i0))] := hl
  have hz_y := hMO.2.1
  have hy0 : h y = some (20, .inr (10, [.ref (ad 0), .ref (ad 1), .ref (ad 2), .int (iv 3), .int (iv 4), .int (iv 5), .ref (ad 6), .ref (ad 7), .ref (ad 8), .ref (ad 9), .ref (ad 10), .ref (ad 11), .int (iv 12), .ref (ad 13), .ref (ad 14), .ref (ad 15), .ref (ad 16), .ref (ad 17), .ref (ad 18), .ref (ad 19), .int (iv 20), .ref (ad 21), .ref (ad 22), .ref (ad 23), .ref (ad 24), .ref (ad 25), .ref (ad 26), .ref (ad 27), .ref (ad 28), .int (iv 29), .ref (ad 30), .ref (ad 31), .int (iv 32), .int (iv 33), .int (iv 34), .int (iv 35), .long tl, .int (iv 37), .int (iv 38), .int (iv 39), .int (iv 40), .ref (ad 41), .ref (ad 42), .int (iv 43)])) := hMO.1
  have ha0 : h (ad 0) = some (30, .inl (.int, 60, .inl (fv 0))) := (hMO.2.2 0 (by decide)).1
  have ha1 : h (ad 1) = some (31, .inl (.int, 40, .inl (fv 1))) := (hMO.2.2 1 (by decide)).1
  have ha2 : h (ad 2) = some (32, .inl (.int, 40, .inl (fv 2))) := (hMO.2.2 2 (by decide)).1
  obtain ⟨hiv3, hln, hl60, hlc⟩ := id hL
  have hw31 := hW.1
  obtain ⟨hws, hwe, hwl, hwc⟩ := hW.2 i0 hiw
  refine lv_aload_n hx hb d_p15m11_0 rfl (lv_at hl 0 rfl) ?_
  refine lv_aload_n hx hb d_p15m11_1 rfl (lv_at hl 0 rfl) ?_
  refine pd_get X w hy0 rfl 1 (by decide) mT_1140 rfl rfl d_p15m11_2 ?_
  refine lv_iload_n hx hb d_p15m11_5 rfl (lv_at hl 1 rfl) ?_
  refine pd_iald X w ha1 (by omega) (by omega) d_p15m11_6 ?_
  refine pd_top (v' := .int (nI (sA i0))) (congrArg Value.int hws) ?_
  refine lv_aload_n hx hb d_p15m11_7 rfl (lv_at hl 0 rfl) ?_
  refine pd_get X w hy0 rfl 2 (by decide) mT_1141 rfl rfl d_p15m11_8 ?_
  refine lv_iload_n hx hb d_p15m11_11 rfl (lv_at hl 1 rfl) ?_
  refine pd_iald X w ha2 (by omega) (by omega) d_p15m11_12 ?_
  refine pd_top (v' := .int (nI (eA i0))) (congrArg Value.int hwe) ?_
  refine pd_cV (a := y) (As := [.int (nI (sA i0)), .int (nI (eA i0))]) (rest := []) X w hy0 rfl (c_PolicyDeskModel_behindName l G h (ad := ad) (fv := fv) (iv := iv) (tl := tl) hMO (by assumption) (by omega) (by omega)) ok_PolicyDeskModel_behindName ⟨mT_1311, sT_18⟩ mT_1309 ⟨by decide, by decide⟩ rfl hl.1 rfl (Nat.le_of_ble_eq_true rfl) d_p15m11_13 ⟨by decide, by decide⟩ (fun r1 h2 H locs hp3 w => ?_)
  refine W.widen (k := 0) (n := 0) (by decide) (by decide) ?_
  obtain ⟨e4, rfl⟩ := hp3
  have hnl := gm_name_le (cs := cs) (Nat.le_of_lt hwl)
  refine lv_aload_n hx hb d_p15m11_16 rfl (lv_at hl 0 rfl) ?_
  refine pd_get X w hy0 rfl 2 (by decide) mT_1141 rfl rfl d_p15m11_17 ?_
  refine lv_iload_n hx hb d_p15m11_20 rfl (lv_at hl 1 rfl) ?_
  refine pd_iald X w ha2 (by omega) (by omega) d_p15m11_21 ?_
  refine pd_top (v' := .int (nI (eA i0))) (congrArg Value.int hwe) ?_
  refine pd_jne (tgt := 29) hx hb d_p15m11_22 (by decide) (by omega) (by omega) (fun q5 => ?_) (fun q5 => ?_)
  · -- taken: 29
    refine lv_iconst (v := nI 0) hx hb d_p15m11_29 (by decide) ?_
    refine W.eq (g2 := F0 m 30 ls [.int (pd_b false)]) rfl ?_
    exact pd_zret (v := false) X w ⟨(decide_eq_false (by rw [← e4]; omega)).symm, rfl⟩ (by decide) (by decide) d_p15m11_30
  · -- not taken: 25
    refine lv_iconst (v := nI 1) hx hb d_p15m11_25 (by decide) ?_
    refine lv_goto (tgt := 30) hx hb d_p15m11_26 (by decide) ?_
    refine W.eq (g2 := F0 m 30 ls [.int (pd_b true)]) rfl ?_
    exact pd_zret (v := true) X w ⟨(decide_eq_true (by rw [← e4]; omega)).symm, rfl⟩ (by decide) (by decide) d_p15m11_30
theorem d_p15m13_0 : decode prog_15_method_13_code 0 = .ok (.iload_n 1, 1) := by decide +kernel
theorem d_p15m13_1 : decode prog_15_method_13_code 1 = .ok (.istore_n 3, 1) := by decide +kernel
theorem d_p15m13_2 : decode prog_15_method_13_code 2 = .ok (.iload_n 3, 1) := by decide +kernel
theorem d_p15m13_3 : decode prog_15_method_13_code 3 = .ok (.iload_n 2, 1) := by decide +kernel
theorem d_p15m13_4 : decode prog_15_method_13_code 4 = .ok (.if_icmp .ge 20, 3) := by decide +kernel
theorem d_p15m13_7 : decode prog_15_method_13_code 7 = .ok (.aload_n 0, 1) := by decide +kernel
theorem d_p15m13_8 : decode prog_15_method_13_code 8 = .ok (.getfield 7, 3) := by decide +kernel
theorem d_p15m13_11 : decode prog_15_method_13_code 11 = .ok (.iload_n 3, 1) := by decide +kernel
theorem d_p15m13_12 : decode prog_15_method_13_code 12 = .ok (.iaload, 1) := by decide +kernel
theorem d_p15m13_13 : decode prog_15_method_13_code 13 = .ok (.bipush 91, 2) := by decide +kernel
theorem d_p15m13_15 : decode prog_15_method_13_code 15 = .ok (.if_icmp .ne 9, 3) := by decide +kernel
theorem d_p15m13_18 : decode prog_15_method_13_code 18 = .ok (.iinc 3 1, 3) := by decide +kernel
theorem d_p15m13_21 : decode prog_15_method_13_code 21 = .ok (.goto (-19), 3) := by decide +kernel
theorem d_p15m13_24 : decode prog_15_method_13_code 24 = .ok (.iload_n 3, 1) := by decide +kernel
theorem d_p15m13_25 : decode prog_15_method_13_code 25 = .ok (.iload_n 2, 1) := by decide +kernel
theorem d_p15m13_26 : decode prog_15_method_13_code 26 = .ok (.if_icmp .ne 5, 3) := by decide +kernel
theorem d_p15m13_29 : decode prog_15_method_13_code 29 = .ok (.iconst (-1), 1) := by decide +kernel
theorem d_p15m13_30 : decode prog_15_method_13_code 30 = .ok (.ireturn, 1) := by decide +kernel
theorem d_p15m13_31 : decode prog_15_method_13_code 31 = .ok (.aload_n 0, 1) := by decide +kernel
theorem d_p15m13_32 : decode prog_15_method_13_code 32 = .ok (.getfield 7, 3) := by decide +kernel
theorem d_p15m13_35 : decode prog_15_method_13_code 35 = .ok (.iload_n 3, 1) := by decide +kernel
theorem d_p15m13_36 : decode prog_15_method_13_code 36 = .ok (.iaload, 1) := by decide +kernel
theorem d_p15m13_37 : decode prog_15_method_13_code 37 = .ok (.istore 4, 2) := by decide +kernel
theorem d_p15m13_39 : decode prog_15_method_13_code 39 = .ok (.iload 4, 2) := by decide +kernel
theorem d_p15m13_41 : decode prog_15_method_13_code 41 = .ok (.bipush 73, 2) := by decide +kernel
theorem d_p15m13_43 : decode prog_15_method_13_code 43 = .ok (.if_icmp .eq 52, 3) := by decide +kernel
theorem d_p15m13_46 : decode prog_15_method_13_code 46 = .ok (.iload 4, 2) := by decide +kernel
theorem d_p15m13_48 : decode prog_15_method_13_code 48 = .ok (.bipush 74, 2) := by decide +kernel
theorem d_p15m13_50 : decode prog_15_method_13_code 50 = .ok (.if_icmp .eq 45, 3) := by decide +kernel
theorem d_p15m13_53 : decode prog_15_method_13_code 53 = .ok (.iload 4, 2) := by decide +kernel
theorem d_p15m13_55 : decode prog_15_method_13_code 55 = .ok (.bipush 70, 2) := by decide +kernel
theorem d_p15m13_57 : decode prog_15_method_13_code 57 = .ok (.if_icmp .eq 38, 3) := by decide +kernel
theorem d_p15m13_60 : decode prog_15_method_13_code 60 = .ok (.iload 4, 2) := by decide +kernel
theorem d_p15m13_62 : decode prog_15_method_13_code 62 = .ok (.bipush 68, 2) := by decide +kernel
theorem d_p15m13_64 : decode prog_15_method_13_code 64 = .ok (.if_icmp .eq 31, 3) := by decide +kernel
theorem d_p15m13_67 : decode prog_15_method_13_code 67 = .ok (.iload 4, 2) := by decide +kernel
theorem d_p15m13_69 : decode prog_15_method_13_code 69 = .ok (.bipush 90, 2) := by decide +kernel
theorem d_p15m13_71 : decode prog_15_method_13_code 71 = .ok (.if_icmp .eq 24, 3) := by decide +kernel
theorem d_p15m13_74 : decode prog_15_method_13_code 74 = .ok (.iload 4, 2) := by decide +kernel
theorem d_p15m13_76 : decode prog_15_method_13_code 76 = .ok (.bipush 66, 2) := by decide +kernel
theorem d_p15m13_78 : decode prog_15_method_13_code 78 = .ok (.if_icmp .eq 17, 3) := by decide +kernel
theorem d_p15m13_81 : decode prog_15_method_13_code 81 = .ok (.iload 4, 2) := by decide +kernel
theorem d_p15m13_83 : decode prog_15_method_13_code 83 = .ok (.bipush 67, 2) := by decide +kernel
theorem d_p15m13_85 : decode prog_15_method_13_code 85 = .ok (.if_icmp .eq 10, 3) := by decide +kernel
theorem d_p15m13_88 : decode prog_15_method_13_code 88 = .ok (.iload 4, 2) := by decide +kernel
theorem d_p15m13_90 : decode prog_15_method_13_code 90 = .ok (.bipush 83, 2) := by decide +kernel
theorem d_p15m13_92 : decode prog_15_method_13_code 92 = .ok (.if_icmp .ne 7, 3) := by decide +kernel
theorem d_p15m13_95 : decode prog_15_method_13_code 95 = .ok (.iload_n 3, 1) := by decide +kernel
theorem d_p15m13_96 : decode prog_15_method_13_code 96 = .ok (.iconst 1, 1) := by decide +kernel
theorem d_p15m13_97 : decode prog_15_method_13_code 97 = .ok (.iadd, 1) := by decide +kernel
theorem d_p15m13_98 : decode prog_15_method_13_code 98 = .ok (.ireturn, 1) := by decide +kernel
theorem d_p15m13_99 : decode prog_15_method_13_code 99 = .ok (.iload 4, 2) := by decide +kernel
theorem d_p15m13_101 : decode prog_15_method_13_code 101 = .ok (.bipush 76, 2) := by decide +kernel
theorem d_p15m13_103 : decode prog_15_method_13_code 103 = .ok (.if_icmp .eq 5, 3) := by decide +kernel
theorem d_p15m13_106 : decode prog_15_method_13_code 106 = .ok (.iconst (-1), 1) := by decide +kernel
theorem d_p15m13_107 : decode prog_15_method_13_code 107 = .ok (.ireturn, 1) := by decide +kernel
theorem d_p15m13_108 : decode prog_15_method_13_code 108 = .ok (.aload_n 0, 1) := by decide +kernel
theorem d_p15m13_109 : decode prog_15_method_13_code 109 = .ok (.iload_n 3, 1) := by decide +kernel
theorem d_p15m13_110 : decode prog_15_method_13_code 110 = .ok (.iconst 1, 1) := by decide +kernel
theorem d_p15m13_111 : decode prog_15_method_13_code 111 = .ok (.iadd, 1) := by decide +kernel
theorem d_p15m13_112 : decode prog_15_method_13_code 112 = .ok (.iload_n 2, 1) := by decide +kernel
theorem d_p15m13_113 : decode prog_15_method_13_code 113 = .ok (.invokevirtual 127, 3) := by decide +kernel
theorem d_p15m13_116 : decode prog_15_method_13_code 116 = .ok (.istore 5, 2) := by decide +kernel
theorem d_p15m13_118 : decode prog_15_method_13_code 118 = .ok (.iload 5, 2) := by decide +kernel
theorem d_p15m13_120 : decode prog_15_method_13_code 120 = .ok (.iload_n 3, 1) := by decide +kernel
theorem d_p15m13_121 : decode prog_15_method_13_code 121 = .ok (.iconst 1, 1) := by decide +kernel
theorem d_p15m13_122 : decode prog_15_method_13_code 122 = .ok (.iadd, 1) := by decide +kernel
theorem d_p15m13_123 : decode prog_15_method_13_code 123 = .ok (.if_icmp .le 28, 3) := by decide +kernel
theorem d_p15m13_126 : decode prog_15_method_13_code 126 = .ok (.iload 5, 2) := by decide +kernel
theorem d_p15m13_128 : decode prog_15_method_13_code 128 = .ok (.iload_n 2, 1) := by decide +kernel
theorem d_p15m13_129 : decode prog_15_method_13_code 129 = .ok (.if_icmp .ge 22, 3) := by decide +kernel
theorem d_p15m13_132 : decode prog_15_method_13_code 132 = .ok (.aload_n 0, 1) := by decide +kernel
theorem d_p15m13_133 : decode prog_15_method_13_code 133 = .ok (.getfield 7, 3) := by decide +kernel
theorem d_p15m13_136 : decode prog_15_method_13_code 136 = .ok (.iload 5, 2) := by decide +kernel
theorem d_p15m13_138 : decode prog_15_method_13_code 138 = .ok (.iaload, 1) := by decide +kernel
theorem d_p15m13_139 : decode prog_15_method_13_code 139 = .ok (.bipush 59, 2) := by decide +kernel
theorem d_p15m13_141 : decode prog_15_method_13_code 141 = .ok (.if_icmp .ne 10, 3) := by decide +kernel
theorem d_p15m13_144 : decode prog_15_method_13_code 144 = .ok (.iload 5, 2) := by decide +kernel
theorem d_p15m13_146 : decode prog_15_method_13_code 146 = .ok (.iconst 1, 1) := by decide +kernel
theorem d_p15m13_147 : decode prog_15_method_13_code 147 = .ok (.iadd, 1) := by decide +kernel
theorem d_p15m13_148 : decode prog_15_method_13_code 148 = .ok (.goto 4, 3) := by decide +kernel
theorem d_p15m13_151 : decode prog_15_method_13_code 151 = .ok (.iconst (-1), 1) := by decide +kernel
theorem d_p15m13_152 : decode prog_15_method_13_code 152 = .ok (.ireturn, 1) := by decide +kernel
abbrev y_Mod_behindType : MethodName := ⟨"PolicyDeskModel", "behindType", "(II)I"⟩
theorem ok_Mod_behindType : pd_ok y_Mod_behindType prog_15_method_13_code 6 (some .int) 2 := ⟨mT_1349, mT_21, by decide, by decide +kernel⟩
abbrev rm_Mod_behindType : Room := { frames := 4, cells := 0, slots := 0, locals := 88 }
set_option maxHeartbeats 4000000 in
set_option maxRecDepth 100000 in
theorem lp_Mod_behindType_2 (l : Launch) (G : pd_G) (h : pd_H) {y : Nat} {ad : Nat → Nat} {fv : Nat → Nat → Int32} {iv : Nat → Int32} {tl : Int64} {cs : List Nat} {x to : Nat} (hMO : pd_MO G h y ad fv iv tl) (hL : gm_L fv iv cs) (hto : to ≤ cs.length) (hxt : x ≤ to) {p : Program} {e : Env} {s : State} {m : MethodId} {below : List Frame} {meth : Method} {c : Code} (X : pd_B p s m [.ref y, .int (nI x), .int (nI to)].toArray meth c G y_Mod_behindType.cls prog_15_method_13_code 6 (some .int)) (hmn : meth.name = y_Mod_behindType.name) :
    ∀ (kk9 : Nat) (i : Nat), (x ≤ i ∧ i ≤ to) → (gm_br cs to (to - i) i = gm_br cs to (to - x) x) → to - i < kk9 → ∀ (H : Heap) (locs : List Loc), pd_w G s H locs h → ∀ ls : Array Slot, lv_has ls 6 [(3, .int (nI i)), (0, .ref y), (1, .int (nI x)), (2, .int (nI to))] → W p l e rm_Mod_behindType s m [.ref y, .int (nI x), .int (nI to)].toArray below meth c H locs 0 0 (MQ below (pd_Q G pd_vm (fun r h1 => r = gm_type cs x to ∧ h = h1)) [.ref y, .int (nI x), .int (nI to)].toArray s rm_Mod_behindType.cells rm_Mod_behindType.slots (fun q => G.2.1 ≤ q)) (F0 m 2 ls []) := by
  have hx := X.1
  have hb := X.2.1
  have hz_y := hMO.2.1
  have hy0 : h y = some (20, .inr (10, [.ref (ad 0), .ref (ad 1), .ref (ad 2), .int (iv 3), .int (iv 4), .int (iv 5), .ref (ad 6), .ref (ad 7), .ref (ad 8), .ref (ad 9), .ref (ad 10), .ref (ad 11), .int (iv 12), .ref (ad 13), .ref (ad 14), .ref (ad 15), .ref (ad 16), .ref (ad 17), .ref (ad 18), .ref (ad 19), .int (iv 20), .ref (ad 21), .ref (ad 22), .ref (ad 23), .ref (ad 24), .ref (ad 25), .ref (ad 26), .ref (ad 27), .ref (ad 28), .int (iv 29), .ref (ad 30), .ref (ad 31), .int (iv 32), .int (iv 33), .int (iv 34), .int (iv 35), .long tl, .int (iv 37), .int (iv 38), .int (iv 39), .int (iv 40), .ref (ad 41), .ref (ad 42), .int (iv 43)])) := hMO.1
  have ha0 : h (ad 0) = some (30, .inl (.int, 60, .inl (fv 0))) := (hMO.2.2 0 (by decide)).1
  obtain ⟨hiv3, hln, hl60, hlc⟩ := id hL
  intro kk9
  induction kk9 with
  | zero => intros; omega
  | succ kk9 ih =>
    intro i hi hv hmu H locs w ls hl
    refine lv_iload_n hx hb d_p15m13_2 rfl (lv_at hl 0 rfl) ?_
    refine lv_iload_n hx hb d_p15m13_3 rfl (lv_at hl 3 rfl) ?_
    refine pd_jge (tgt := 24) hx hb d_p15m13_4 (by decide) (by omega) (by omega) (fun q1 => ?_) (fun q1 => ?_)
    · -- taken: 24
      have hbr : gm_br cs to (to - x) x = i := by rw [← hv, gm_br_n (by omega)]
      refine lv_iload_n hx hb d_p15m13_24 rfl (lv_at hl 0 rfl) ?_
      refine lv_iload_n hx hb d_p15m13_25 rfl (lv_at hl 3 rfl) ?_
      refine pd_jne (tgt := 31) hx hb d_p15m13_26 (by decide) (by omega) (by omega) (fun q2 => ?_) (fun q2 => ?_)
      · -- taken: 31
        refine lv_aload_n hx hb d_p15m13_31 rfl (lv_at hl 1 rfl) ?_
        refine pd_get X w hy0 rfl 0 (by decide) mT_1139 rfl rfl d_p15m13_32 ?_
        refine lv_iload_n hx hb d_p15m13_35 rfl (lv_at hl 0 rfl) ?_
        refine pd_iald X w ha0 (by omega) (by omega) d_p15m13_36 ?_
        refine pd_top (v' := .int (nI (cs.getD i 0))) (congrArg Value.int (hln _ (by omega))) ?_
        have := tx_lt hlc i
        refine lv_istore (lv' := [(4, .int (nI (cs.getD i 0))), (3, .int (nI i)), (0, .ref y), (1, .int (nI x)), (2, .int (nI to))]) hx hb d_p15m13_37 hl (by decide) rfl (fun ls hl => ?_)
        refine lv_iload hx hb d_p15m13_39 (lv_at hl 0 rfl) ?_
        refine lv_bipush (v := nI 73) hx hb d_p15m13_41 (by decide) ?_
        refine pd_jeq (tgt := 95) hx hb d_p15m13_43 (by decide) (by omega) (by omega) (fun q3 => ?_) (fun q3 => ?_)
        · -- taken: 95
          refine lv_iload_n hx hb d_p15m13_95 rfl (lv_at hl 1 rfl) ?_
          refine lv_iconst (v := nI 1) hx hb d_p15m13_96 (by decide) ?_
          refine pd_iadd hx hb d_p15m13_97 ?_
          refine W.eq (g2 := F0 m 98 ls [.int (pd_m (some (i + 1)))]) rfl ?_
          exact pd_mret (v := (some (i + 1))) X w ⟨by unfold gm_type; rw [hbr]; unfold gm_tk; rw [if_neg (by omega), if_pos (gm_sty_t (by omega))], rfl⟩ (by decide) (by decide) d_p15m13_98
        · -- not taken: 46
          refine lv_iload hx hb d_p15m13_46 (lv_at hl 0 rfl) ?_
          refine lv_bipush (v := nI 74) hx hb d_p15m13_48 (by decide) ?_
          refine pd_jeq (tgt := 95) hx hb d_p15m13_50 (by decide) (by omega) (by omega) (fun q4 => ?_) (fun q4 => ?_)
          · -- taken: 95
            refine lv_iload_n hx hb d_p15m13_95 rfl (lv_at hl 1 rfl) ?_
            refine lv_iconst (v := nI 1) hx hb d_p15m13_96 (by decide) ?_
            refine pd_iadd hx hb d_p15m13_97 ?_
            refine W.eq (g2 := F0 m 98 ls [.int (pd_m (some (i + 1)))]) rfl ?_
            exact pd_mret (v := (some (i + 1))) X w ⟨by unfold gm_type; rw [hbr]; unfold gm_tk; rw [if_neg (by omega), if_pos (gm_sty_t (by omega))], rfl⟩ (by decide) (by decide) d_p15m13_98
          · -- not taken: 53
            refine lv_iload hx hb d_p15m13_53 (lv_at hl 0 rfl) ?_
            refine lv_bipush (v := nI 70) hx hb d_p15m13_55 (by decide) ?_
            refine pd_jeq (tgt := 95) hx hb d_p15m13_57 (by decide) (by omega) (by omega) (fun q5 => ?_) (fun q5 => ?_)
            · -- taken: 95
              refine lv_iload_n hx hb d_p15m13_95 rfl (lv_at hl 1 rfl) ?_
              refine lv_iconst (v := nI 1) hx hb d_p15m13_96 (by decide) ?_
              refine pd_iadd hx hb d_p15m13_97 ?_
              refine W.eq (g2 := F0 m 98 ls [.int (pd_m (some (i + 1)))]) rfl ?_
              exact pd_mret (v := (some (i + 1))) X w ⟨by unfold gm_type; rw [hbr]; unfold gm_tk; rw [if_neg (by omega), if_pos (gm_sty_t (by omega))], rfl⟩ (by decide) (by decide) d_p15m13_98
            · -- not taken: 60
              refine lv_iload hx hb d_p15m13_60 (lv_at hl 0 rfl) ?_
              refine lv_bipush (v := nI 68) hx hb d_p15m13_62 (by decide) ?_
              refine pd_jeq (tgt := 95) hx hb d_p15m13_64 (by decide) (by omega) (by omega) (fun q6 => ?_) (fun q6 => ?_)
              · -- taken: 95
                refine lv_iload_n hx hb d_p15m13_95 rfl (lv_at hl 1 rfl) ?_
                refine lv_iconst (v := nI 1) hx hb d_p15m13_96 (by decide) ?_
                refine pd_iadd hx hb d_p15m13_97 ?_
                refine W.eq (g2 := F0 m 98 ls [.int (pd_m (some (i + 1)))]) rfl ?_
                exact pd_mret (v := (some (i + 1))) X w ⟨by unfold gm_type; rw [hbr]; unfold gm_tk; rw [if_neg (by omega), if_pos (gm_sty_t (by omega))], rfl⟩ (by decide) (by decide) d_p15m13_98
              · -- not taken: 67
                refine lv_iload hx hb d_p15m13_67 (lv_at hl 0 rfl) ?_
                refine lv_bipush (v := nI 90) hx hb d_p15m13_69 (by decide) ?_
                refine pd_jeq (tgt := 95) hx hb d_p15m13_71 (by decide) (by omega) (by omega) (fun q7 => ?_) (fun q7 => ?_)
                · -- taken: 95
                  refine lv_iload_n hx hb d_p15m13_95 rfl (lv_at hl 1 rfl) ?_
                  refine lv_iconst (v := nI 1) hx hb d_p15m13_96 (by decide) ?_
                  refine pd_iadd hx hb d_p15m13_97 ?_
                  refine W.eq (g2 := F0 m 98 ls [.int (pd_m (some (i + 1)))]) rfl ?_
                  exact pd_mret (v := (some (i + 1))) X w ⟨by unfold gm_type; rw [hbr]; unfold gm_tk; rw [if_neg (by omega), if_pos (gm_sty_t (by omega))], rfl⟩ (by decide) (by decide) d_p15m13_98
                · -- not taken: 74
                  refine lv_iload hx hb d_p15m13_74 (lv_at hl 0 rfl) ?_
                  refine lv_bipush (v := nI 66) hx hb d_p15m13_76 (by decide) ?_
                  refine pd_jeq (tgt := 95) hx hb d_p15m13_78 (by decide) (by omega) (by omega) (fun q8 => ?_) (fun q8 => ?_)
                  · -- taken: 95
                    refine lv_iload_n hx hb d_p15m13_95 rfl (lv_at hl 1 rfl) ?_
                    refine lv_iconst (v := nI 1) hx hb d_p15m13_96 (by decide) ?_
                    refine pd_iadd hx hb d_p15m13_97 ?_
                    refine W.eq (g2 := F0 m 98 ls [.int (pd_m (some (i + 1)))]) rfl ?_
                    exact pd_mret (v := (some (i + 1))) X w ⟨by unfold gm_type; rw [hbr]; unfold gm_tk; rw [if_neg (by omega), if_pos (gm_sty_t (by omega))], rfl⟩ (by decide) (by decide) d_p15m13_98
                  · -- not taken: 81
                    refine lv_iload hx hb d_p15m13_81 (lv_at hl 0 rfl) ?_
                    refine lv_bipush (v := nI 67) hx hb d_p15m13_83 (by decide) ?_
                    refine pd_jeq (tgt := 95) hx hb d_p15m13_85 (by decide) (by omega) (by omega) (fun q9 => ?_) (fun q9 => ?_)
                    · -- taken: 95
                      refine lv_iload_n hx hb d_p15m13_95 rfl (lv_at hl 1 rfl) ?_
                      refine lv_iconst (v := nI 1) hx hb d_p15m13_96 (by decide) ?_
                      refine pd_iadd hx hb d_p15m13_97 ?_
                      refine W.eq (g2 := F0 m 98 ls [.int (pd_m (some (i + 1)))]) rfl ?_
                      exact pd_mret (v := (some (i + 1))) X w ⟨by unfold gm_type; rw [hbr]; unfold gm_tk; rw [if_neg (by omega), if_pos (gm_sty_t (by omega))], rfl⟩ (by decide) (by decide) d_p15m13_98
                    · -- not taken: 88
                      refine lv_iload hx hb d_p15m13_88 (lv_at hl 0 rfl) ?_
                      refine lv_bipush (v := nI 83) hx hb d_p15m13_90 (by decide) ?_
                      refine pd_jne (tgt := 99) hx hb d_p15m13_92 (by decide) (by omega) (by omega) (fun q10 => ?_) (fun q10 => ?_)
                      · -- taken: 99
                        refine lv_iload hx hb d_p15m13_99 (lv_at hl 0 rfl) ?_
                        refine lv_bipush (v := nI 76) hx hb d_p15m13_101 (by decide) ?_
                        refine pd_jeq (tgt := 108) hx hb d_p15m13_103 (by decide) (by omega) (by omega) (fun q11 => ?_) (fun q11 => ?_)
                        · -- taken: 108
                          refine lv_aload_n hx hb d_p15m13_108 rfl (lv_at hl 2 rfl) ?_
                          refine lv_iload_n hx hb d_p15m13_109 rfl (lv_at hl 1 rfl) ?_
                          refine lv_iconst (v := nI 1) hx hb d_p15m13_110 (by decide) ?_
                          refine pd_iadd hx hb d_p15m13_111 ?_
                          refine lv_iload_n hx hb d_p15m13_112 rfl (lv_at hl 4 rfl) ?_
                          refine pd_cV (a := y) (As := [.int (nI (i + 1)), .int (nI to)]) (rest := []) X w hy0 rfl (c_PolicyDeskModel_behindName l G h (ad := ad) (fv := fv) (iv := iv) (tl := tl) hMO (by assumption) (by omega) (by omega)) ok_PolicyDeskModel_behindName ⟨mT_1311, sT_18⟩ mT_1309 ⟨by decide, by decide⟩ rfl hl.1 rfl (Nat.le_of_ble_eq_true rfl) d_p15m13_113 ⟨by decide, by decide⟩ (fun r12 h13 H locs hp14 w => ?_)
                          refine W.widen (k := 0) (n := 0) (by decide) (by decide) ?_
                          obtain ⟨e15, rfl⟩ := hp14
                          have hnl := gm_name_le (cs := cs) (x := i + 1) (to := to) (by omega)
                          refine lv_istore (lv' := [(5, .int (nI r12)), (4, .int (nI (cs.getD i 0))), (3, .int (nI i)), (0, .ref y), (1, .int (nI x)), (2, .int (nI to))]) hx hb d_p15m13_116 hl (by decide) rfl (fun ls hl => ?_)
                          refine lv_iload hx hb d_p15m13_118 (lv_at hl 0 rfl) ?_
                          refine lv_iload_n hx hb d_p15m13_120 rfl (lv_at hl 2 rfl) ?_
                          refine lv_iconst (v := nI 1) hx hb d_p15m13_121 (by decide) ?_
                          refine pd_iadd hx hb d_p15m13_122 ?_
                          refine pd_jle (tgt := 151) hx hb d_p15m13_123 (by decide) (by omega) (by omega) (fun q16 => ?_) (fun q16 => ?_)
                          · -- taken: 151
                            refine lv_iconst (v := -1) hx hb d_p15m13_151 (by decide) ?_
                            refine W.eq (g2 := F0 m 152 ls [.int (pd_m none)]) rfl ?_
                            exact pd_mret (v := none) X w ⟨by unfold gm_type; rw [hbr]; unfold gm_tk; rw [if_neg (by omega), if_neg (gm_sty_f (by omega)), if_neg (by omega), ← e15, if_neg (by omega)], rfl⟩ (by decide) (by decide) d_p15m13_152
                          · -- not taken: 126
                            refine lv_iload hx hb d_p15m13_126 (lv_at hl 0 rfl) ?_
                            refine lv_iload_n hx hb d_p15m13_128 rfl (lv_at hl 5 rfl) ?_
                            refine pd_jge (tgt := 151) hx hb d_p15m13_129 (by decide) (by omega) (by omega) (fun q17 => ?_) (fun q17 => ?_)
                            · -- taken: 151
                              refine lv_iconst (v := -1) hx hb d_p15m13_151 (by decide) ?_
                              refine W.eq (g2 := F0 m 152 ls [.int (pd_m none)]) rfl ?_
                              exact pd_mret (v := none) X w ⟨by unfold gm_type; rw [hbr]; unfold gm_tk; rw [if_neg (by omega), if_neg (gm_sty_f (by omega)), if_neg (by omega), ← e15, if_neg (by omega)], rfl⟩ (by decide) (by decide) d_p15m13_152
                            · -- not taken: 132
                              refine lv_aload_n hx hb d_p15m13_132 rfl (lv_at hl 3 rfl) ?_
                              refine pd_get X w hy0 rfl 0 (by decide) mT_1139 rfl rfl d_p15m13_133 ?_
                              refine lv_iload hx hb d_p15m13_136 (lv_at hl 0 rfl) ?_
                              refine pd_iald X w ha0 (by omega) (by omega) d_p15m13_138 ?_
                              refine pd_top (v' := .int (nI (cs.getD r12 0))) (congrArg Value.int (hln _ (by omega))) ?_
                              have := tx_lt hlc r12
                              refine lv_bipush (v := nI 59) hx hb d_p15m13_139 (by decide) ?_
                              refine pd_jne (tgt := 151) hx hb d_p15m13_141 (by decide) (by omega) (by omega) (fun q18 => ?_) (fun q18 => ?_)
                              · -- taken: 151
                                refine lv_iconst (v := -1) hx hb d_p15m13_151 (by decide) ?_
                                refine W.eq (g2 := F0 m 152 ls [.int (pd_m none)]) rfl ?_
                                exact pd_mret (v := none) X w ⟨by unfold gm_type; rw [hbr]; unfold gm_tk; rw [if_neg (by omega), if_neg (gm_sty_f (by omega)), if_neg (by omega), ← e15, if_neg (by omega)], rfl⟩ (by decide) (by decide) d_p15m13_152
                              · -- not taken: 144
                                refine lv_iload hx hb d_p15m13_144 (lv_at hl 0 rfl) ?_
                                refine lv_iconst (v := nI 1) hx hb d_p15m13_146 (by decide) ?_
                                refine pd_iadd hx hb d_p15m13_147 ?_
                                refine lv_goto (tgt := 152) hx hb d_p15m13_148 (by decide) ?_
                                refine W.eq (g2 := F0 m 152 ls [.int (pd_m (some (r12 + 1)))]) rfl ?_
                                exact pd_mret (v := (some (r12 + 1))) X w ⟨by unfold gm_type; rw [hbr]; unfold gm_tk; rw [if_neg (by omega), if_neg (gm_sty_f (by omega)), if_neg (by omega), ← e15, if_pos (by omega)], rfl⟩ (by decide) (by decide) d_p15m13_152
                        · -- not taken: 106
                          refine lv_iconst (v := -1) hx hb d_p15m13_106 (by decide) ?_
                          refine W.eq (g2 := F0 m 107 ls [.int (pd_m none)]) rfl ?_
                          exact pd_mret (v := none) X w ⟨by unfold gm_type; rw [hbr]; unfold gm_tk; rw [if_neg (by omega), if_neg (gm_sty_f (by omega)), if_pos (by omega)], rfl⟩ (by decide) (by decide) d_p15m13_107
                      · -- not taken: 95
                        refine lv_iload_n hx hb d_p15m13_95 rfl (lv_at hl 1 rfl) ?_
                        refine lv_iconst (v := nI 1) hx hb d_p15m13_96 (by decide) ?_
                        refine pd_iadd hx hb d_p15m13_97 ?_
                        refine W.eq (g2 := F0 m 98 ls [.int (pd_m (some (i + 1)))]) rfl ?_
                        exact pd_mret (v := (some (i + 1))) X w ⟨by unfold gm_type; rw [hbr]; unfold gm_tk; rw [if_neg (by omega), if_pos (gm_sty_t (by omega))], rfl⟩ (by decide) (by decide) d_p15m13_98
      · -- not taken: 29
        refine lv_iconst (v := -1) hx hb d_p15m13_29 (by decide) ?_
        refine W.eq (g2 := F0 m 30 ls [.int (pd_m none)]) rfl ?_
        exact pd_mret (v := none) X w ⟨by unfold gm_type; rw [hbr]; unfold gm_tk; rw [if_pos (by omega)], rfl⟩ (by decide) (by decide) d_p15m13_30
    · -- not taken: 7
      refine lv_aload_n hx hb d_p15m13_7 rfl (lv_at hl 1 rfl) ?_
      refine pd_get X w hy0 rfl 0 (by decide) mT_1139 rfl rfl d_p15m13_8 ?_
      refine lv_iload_n hx hb d_p15m13_11 rfl (lv_at hl 0 rfl) ?_
      refine pd_iald X w ha0 (by omega) (by omega) d_p15m13_12 ?_
      refine pd_top (v' := .int (nI (cs.getD i 0))) (congrArg Value.int (hln _ (by omega))) ?_
      have := tx_lt hlc i
      refine lv_bipush (v := nI 91) hx hb d_p15m13_13 (by decide) ?_
      refine pd_jne (tgt := 24) hx hb d_p15m13_15 (by decide) (by omega) (by omega) (fun q19 => ?_) (fun q19 => ?_)
      · -- taken: 24
        have hbr : gm_br cs to (to - x) x = i := by rw [← hv, gm_br_n (by omega)]
        refine lv_iload_n hx hb d_p15m13_24 rfl (lv_at hl 0 rfl) ?_
        refine lv_iload_n hx hb d_p15m13_25 rfl (lv_at hl 3 rfl) ?_
        refine pd_jne (tgt := 31) hx hb d_p15m13_26 (by decide) (by omega) (by omega) (fun q20 => ?_) (fun q20 => ?_)
        · -- taken: 31
          refine lv_aload_n hx hb d_p15m13_31 rfl (lv_at hl 1 rfl) ?_
          refine pd_get X w hy0 rfl 0 (by decide) mT_1139 rfl rfl d_p15m13_32 ?_
          refine lv_iload_n hx hb d_p15m13_35 rfl (lv_at hl 0 rfl) ?_
          refine pd_iald X w ha0 (by omega) (by omega) d_p15m13_36 ?_
          refine pd_top (v' := .int (nI (cs.getD i 0))) (congrArg Value.int (hln _ (by omega))) ?_
          have := tx_lt hlc i
          refine lv_istore (lv' := [(4, .int (nI (cs.getD i 0))), (3, .int (nI i)), (0, .ref y), (1, .int (nI x)), (2, .int (nI to))]) hx hb d_p15m13_37 hl (by decide) rfl (fun ls hl => ?_)
          refine lv_iload hx hb d_p15m13_39 (lv_at hl 0 rfl) ?_
          refine lv_bipush (v := nI 73) hx hb d_p15m13_41 (by decide) ?_
          refine pd_jeq (tgt := 95) hx hb d_p15m13_43 (by decide) (by omega) (by omega) (fun q21 => ?_) (fun q21 => ?_)
          · -- taken: 95
            refine lv_iload_n hx hb d_p15m13_95 rfl (lv_at hl 1 rfl) ?_
            refine lv_iconst (v := nI 1) hx hb d_p15m13_96 (by decide) ?_
            refine pd_iadd hx hb d_p15m13_97 ?_
            refine W.eq (g2 := F0 m 98 ls [.int (pd_m (some (i + 1)))]) rfl ?_
            exact pd_mret (v := (some (i + 1))) X w ⟨by unfold gm_type; rw [hbr]; unfold gm_tk; rw [if_neg (by omega), if_pos (gm_sty_t (by omega))], rfl⟩ (by decide) (by decide) d_p15m13_98
          · -- not taken: 46
            refine lv_iload hx hb d_p15m13_46 (lv_at hl 0 rfl) ?_
            refine lv_bipush (v := nI 74) hx hb d_p15m13_48 (by decide) ?_
            refine pd_jeq (tgt := 95) hx hb d_p15m13_50 (by decide) (by omega) (by omega) (fun q22 => ?_) (fun q22 => ?_)
            · -- taken: 95
              refine lv_iload_n hx hb d_p15m13_95 rfl (lv_at hl 1 rfl) ?_
              refine lv_iconst (v := nI 1) hx hb d_p15m13_96 (by decide) ?_
              refine pd_iadd hx hb d_p15m13_97 ?_
              refine W.eq (g2 := F0 m 98 ls [.int (pd_m (some (i + 1)))]) rfl ?_
              exact pd_mret (v := (some (i + 1))) X w ⟨by unfold gm_type; rw [hbr]; unfold gm_tk; rw [if_neg (by omega), if_pos (gm_sty_t (by omega))], rfl⟩ (by decide) (by decide) d_p15m13_98
            · -- not taken: 53
              refine lv_iload hx hb d_p15m13_53 (lv_at hl 0 rfl) ?_
              refine lv_bipush (v := nI 70) hx hb d_p15m13_55 (by decide) ?_
              refine pd_jeq (tgt := 95) hx hb d_p15m13_57 (by decide) (by omega) (by omega) (fun q23 => ?_) (fun q23 => ?_)
              · -- taken: 95
                refine lv_iload_n hx hb d_p15m13_95 rfl (lv_at hl 1 rfl) ?_
                refine lv_iconst (v := nI 1) hx hb d_p15m13_96 (by decide) ?_
                refine pd_iadd hx hb d_p15m13_97 ?_
                refine W.eq (g2 := F0 m 98 ls [.int (pd_m (some (i + 1)))]) rfl ?_
                exact pd_mret (v := (some (i + 1))) X w ⟨by unfold gm_type; rw [hbr]; unfold gm_tk; rw [if_neg (by omega), if_pos (gm_sty_t (by omega))], rfl⟩ (by decide) (by decide) d_p15m13_98
              · -- not taken: 60
                refine lv_iload hx hb d_p15m13_60 (lv_at hl 0 rfl) ?_
                refine lv_bipush (v := nI 68) hx hb d_p15m13_62 (by decide) ?_
                refine pd_jeq (tgt := 95) hx hb d_p15m13_64 (by decide) (by omega) (by omega) (fun q24 => ?_) (fun q24 => ?_)
                · -- taken: 95
                  refine lv_iload_n hx hb d_p15m13_95 rfl (lv_at hl 1 rfl) ?_
                  refine lv_iconst (v := nI 1) hx hb d_p15m13_96 (by decide) ?_
                  refine pd_iadd hx hb d_p15m13_97 ?_
                  refine W.eq (g2 := F0 m 98 ls [.int (pd_m (some (i + 1)))]) rfl ?_
                  exact pd_mret (v := (some (i + 1))) X w ⟨by unfold gm_type; rw [hbr]; unfold gm_tk; rw [if_neg (by omega), if_pos (gm_sty_t (by omega))], rfl⟩ (by decide) (by decide) d_p15m13_98
                · -- not taken: 67
                  refine lv_iload hx hb d_p15m13_67 (lv_at hl 0 rfl) ?_
                  refine lv_bipush (v := nI 90) hx hb d_p15m13_69 (by decide) ?_
                  refine pd_jeq (tgt := 95) hx hb d_p15m13_71 (by decide) (by omega) (by omega) (fun q25 => ?_) (fun q25 => ?_)
                  · -- taken: 95
                    refine lv_iload_n hx hb d_p15m13_95 rfl (lv_at hl 1 rfl) ?_
                    refine lv_iconst (v := nI 1) hx hb d_p15m13_96 (by decide) ?_
                    refine pd_iadd hx hb d_p15m13_97 ?_
                    refine W.eq (g2 := F0 m 98 ls [.int (pd_m (some (i + 1)))]) rfl ?_
                    exact pd_mret (v := (some (i + 1))) X w ⟨by unfold gm_type; rw [hbr]; unfold gm_tk; rw [if_neg (by omega), if_pos (gm_sty_t (by omega))], rfl⟩ (by decide) (by decide) d_p15m13_98
                  · -- not taken: 74
                    refine lv_iload hx hb d_p15m13_74 (lv_at hl 0 rfl) ?_
                    refine lv_bipush (v := nI 66) hx hb d_p15m13_76 (by decide) ?_
                    refine pd_jeq (tgt := 95) hx hb d_p15m13_78 (by decide) (by omega) (by omega) (fun q26 => ?_) (fun q26 => ?_)
                    · -- taken: 95
                      refine lv_iload_n hx hb d_p15m13_95 rfl (lv_at hl 1 rfl) ?_
                      refine lv_iconst (v := nI 1) hx hb d_p15m13_96 (by decide) ?_
                      refine pd_iadd hx hb d_p15m13_97 ?_
                      refine W.eq (g2 := F0 m 98 ls [.int (pd_m (some (i + 1)))]) rfl ?_
                      exact pd_mret (v := (some (i + 1))) X w ⟨by unfold gm_type; rw [hbr]; unfold gm_tk; rw [if_neg (by omega), if_pos (gm_sty_t (by omega))], rfl⟩ (by decide) (by decide) d_p15m13_98
                    · -- not taken: 81
                      refine lv_iload hx hb d_p15m13_81 (lv_at hl 0 rfl) ?_
                      refine lv_bipush (v := nI 67) hx hb d_p15m13_83 (by decide) ?_
                      refine pd_jeq (tgt := 95) hx hb d_p15m13_85 (by decide) (by omega) (by omega) (fun q27 => ?_) (fun q27 => ?_)
                      · -- taken: 95
                        refine lv_iload_n hx hb d_p15m13_95 rfl (lv_at hl 1 rfl) ?_
                        refine lv_iconst (v := nI 1) hx hb d_p15m13_96 (by decide) ?_
                        refine pd_iadd hx hb d_p15m13_97 ?_
                        refine W.eq (g2 := F0 m 98 ls [.int (pd_m (some (i + 1)))]) rfl ?_
                        exact pd_mret (v := (some (i + 1))) X w ⟨by unfold gm_type; rw [hbr]; unfold gm_tk; rw [if_neg (by omega), if_pos (gm_sty_t (by omega))], rfl⟩ (by decide) (by decide) d_p15m13_98
                      · -- not taken: 88
                        refine lv_iload hx hb d_p15m13_88 (lv_at hl 0 rfl) ?_
                        refine lv_bipush (v := nI 83) hx hb d_p15m13_90 (by decide) ?_
                        refine pd_jne (tgt := 99) hx hb d_p15m13_92 (by decide) (by omega) (by omega) (fun q28 => ?_) (fun q28 => ?_)
                        · -- taken: 99
                          refine lv_iload hx hb d_p15m13_99 (lv_at hl 0 rfl) ?_
                          refine lv_bipush (v := nI 76) hx hb d_p15m13_101 (by decide) ?_
                          refine pd_jeq (tgt := 108) hx hb d_p15m13_103 (by decide) (by omega) (by omega) (fun q29 => ?_) (fun q29 => ?_)
                          · -- taken: 108
                            refine lv_aload_n hx hb d_p15m13_108 rfl (lv_at hl 2 rfl) ?_
                            refine lv_iload_n hx hb d_p15m13_109 rfl (lv_at hl 1 rfl) ?_
                            refine lv_iconst (v := nI 1) hx hb d_p15m13_110 (by decide) ?_
                            refine pd_iadd hx hb d_p15m13_111 ?_
                            refine lv_iload_n hx hb d_p15m13_112 rfl (lv_at hl 4 rfl) ?_
                            refine pd_cV (a := y) (As := [.int (nI (i + 1)), .int (nI to)]) (rest := []) X w hy0 rfl (c_PolicyDeskModel_behindName l G h (ad := ad) (fv := fv) (iv := iv) (tl := tl) hMO (by assumption) (by omega) (by omega)) ok_PolicyDeskModel_behindName ⟨mT_1311, sT_18⟩ mT_1309 ⟨by decide, by decide⟩ rfl hl.1 rfl (Nat.le_of_ble_eq_true rfl) d_p15m13_113 ⟨by decide, by decide⟩ (fun r30 h31 H locs hp32 w => ?_)
                            refine W.widen (k := 0) (n := 0) (by decide) (by decide) ?_
                            obtain ⟨e33, rfl⟩ := hp32
                            have hnl := gm_name_le (cs := cs) (x := i + 1) (to := to) (by omega)
                            refine lv_istore (lv' := [(5, .int (nI r30)), (4, .int (nI (cs.getD i 0))), (3, .int (nI i)), (0, .ref y), (1, .int (nI x)), (2, .int (nI to))]) hx hb d_p15m13_116 hl (by decide) rfl (fun ls hl => ?_)
                            refine lv_iload hx hb d_p15m13_118 (lv_at hl 0 rfl) ?_
                            refine lv_iload_n hx hb d_p15m13_120 rfl (lv_at hl 2 rfl) ?_
                            refine lv_iconst (v := nI 1) hx hb d_p15m13_121 (by decide) ?_
                            refine pd_iadd hx hb d_p15m13_122 ?_
                            refine pd_jle (tgt := 151) hx hb d_p15m13_123 (by decide) (by omega) (by omega) (fun q34 => ?_) (fun q34 => ?_)
                            · -- taken: 151
                              refine lv_iconst (v := -1) hx hb d_p15m13_151 (by decide) ?_
                              refine W.eq (g2 := F0 m 152 ls [.int (pd_m none)]) rfl ?_
                              exact pd_mret (v := none) X w ⟨by unfold gm_type; rw [hbr]; unfold gm_tk; rw [if_neg (by omega), if_neg (gm_sty_f (by omega)), if_neg (by omega), ← e33, if_neg (by omega)], rfl⟩ (by decide) (by decide) d_p15m13_152
                            · -- not taken: 126
                              refine lv_iload hx hb d_p15m13_126 (lv_at hl 0 rfl) ?_
                              refine lv_iload_n hx hb d_p15m13_128 rfl (lv_at hl 5 rfl) ?_
                              refine pd_jge (tgt := 151) hx hb d_p15m13_129 (by decide) (by omega) (by omega) (fun q35 => ?_) (fun q35 => ?_)
                              · -- taken: 151
                                refine lv_iconst (v := -1) hx hb d_p15m13_151 (by decide) ?_
                                refine W.eq (g2 := F0 m 152 ls [.int (pd_m none)]) rfl ?_
                                exact pd_mret (v := none) X w ⟨by unfold gm_type; rw [hbr]; unfold gm_tk; rw [if_neg (by omega), if_neg (gm_sty_f (by omega)), if_neg (by omega), ← e33, if_neg (by omega)], rfl⟩ (by decide) (by decide) d_p15m13_152
                              · -- not taken: 132
                                refine lv_aload_n hx hb d_p15m13_132 rfl (lv_at hl 3 rfl) ?_
                                refine pd_get X w hy0 rfl 0 (by decide) mT_1139 rfl rfl d_p15m13_133 ?_
                                refine lv_iload hx hb d_p15m13_136 (lv_at hl 0 rfl) ?_
                                refine pd_iald X w ha0 (by omega) (by omega) d_p15m13_138 ?_
                                refine pd_top (v' := .int (nI (cs.getD r30 0))) (congrArg Value.int (hln _ (by omega))) ?_
                                have := tx_lt hlc r30
                                refine lv_bipush (v := nI 59) hx hb d_p15m13_139 (by decide) ?_
                                refine pd_jne (tgt := 151) hx hb d_p15m13_141 (by decide) (by omega) (by omega) (fun q36 => ?_) (fun q36 => ?_)
                                · -- taken: 151
                                  refine lv_iconst (v := -1) hx hb d_p15m13_151 (by decide) ?_
                                  refine W.eq (g2 := F0 m 152 ls [.int (pd_m none)]) rfl ?_
                                  exact pd_mret (v := none) X w ⟨by unfold gm_type; rw [hbr]; unfold gm_tk; rw [if_neg (by omega), if_neg (gm_sty_f (by omega)), if_neg (by omega), ← e33, if_neg (by omega)], rfl⟩ (by decide) (by decide) d_p15m13_152
                                · -- not taken: 144
                                  refine lv_iload hx hb d_p15m13_144 (lv_at hl 0 rfl) ?_
                                  refine lv_iconst (v := nI 1) hx hb d_p15m13_146 (by decide) ?_
                                  refine pd_iadd hx hb d_p15m13_147 ?_
                                  refine lv_goto (tgt := 152) hx hb d_p15m13_148 (by decide) ?_
                                  refine W.eq (g2 := F0 m 152 ls [.int (pd_m (some (r30 + 1)))]) rfl ?_
                                  exact pd_mret (v := (some (r30 + 1))) X w ⟨by unfold gm_type; rw [hbr]; unfold gm_tk; rw [if_neg (by omega), if_neg (gm_sty_f (by omega)), if_neg (by omega), ← e33, if_pos (by omega)], rfl⟩ (by decide) (by decide) d_p15m13_152
                          · -- not taken: 106
                            refine lv_iconst (v := -1) hx hb d_p15m13_106 (by decide) ?_
                            refine W.eq (g2 := F0 m 107 ls [.int (pd_m none)]) rfl ?_
                            exact pd_mret (v := none) X w ⟨by unfold gm_type; rw [hbr]; unfold gm_tk; rw [if_neg (by omega), if_neg (gm_sty_f (by omega)), if_pos (by omega)], rfl⟩ (by decide) (by decide) d_p15m13_107
                        · -- not taken: 95
                          refine lv_iload_n hx hb d_p15m13_95 rfl (lv_at hl 1 rfl) ?_
                          refine lv_iconst (v := nI 1) hx hb d_p15m13_96 (by decide) ?_
                          refine pd_iadd hx hb d_p15m13_97 ?_
                          refine W.eq (g2 := F0 m 98 ls [.int (pd_m (some (i + 1)))]) rfl ?_
                          exact pd_mret (v := (some (i + 1))) X w ⟨by unfold gm_type; rw [hbr]; unfold gm_tk; rw [if_neg (by omega), if_pos (gm_sty_t (by omega))], rfl⟩ (by decide) (by decide) d_p15m13_98
        · -- not taken: 29
          refine lv_iconst (v := -1) hx hb d_p15m13_29 (by decide) ?_
          refine W.eq (g2 := F0 m 30 ls [.int (pd_m none)]) rfl ?_
          exact pd_mret (v := none) X w ⟨by unfold gm_type; rw [hbr]; unfold gm_tk; rw [if_pos (by omega)], rfl⟩ (by decide) (by decide) d_p15m13_30
      · -- not taken: 18
        refine pd_iinc (k := 0) (d := 1) (lv' := [(3, .int (nI (i + 1))), (0, .ref y), (1, .int (nI x)), (2, .int (nI to))]) hx hb d_p15m13_18 (by decide) hl rfl (by decide) rfl (fun ls hl => ?_)
        refine lv_goto (tgt := 2) hx hb d_p15m13_21 (by decide) ?_
        exact ih (i + 1) (by omega) (by rw [← hv, gm_br_s (x := i) (by omega) (by omega)]) (by omega) _ _ w ls (lv_sub hl [0, 1, 2, 3] rfl)
set_option maxHeartbeats 4000000 in
set_option maxRecDepth 100000 in
theorem c_Mod_behindType (l : Launch) (G : pd_G) (h : pd_H) {y : Nat} {ad : Nat → Nat} {fv : Nat → Nat → Int32} {iv : Nat → Int32} {tl : Int64} {cs : List Nat} {x to : Nat} (hMO : pd_MO G h y ad fv iv tl) (hL : gm_L fv iv cs) (hto : to ≤ cs.length) (hxt : x ≤ to) : pd_M l y_Mod_behindType prog_15_method_13_code 6 (some .int) rm_Mod_behindType G h [.ref y, .int (nI x), .int (nI to)] pd_vm (fun r h1 => r = gm_type cs x to ∧ h = h1) := by
  refine pd_M.of (by decide) (Nat.le_of_ble_eq_true rfl) ?_
  intro p e s m below meth c X hmn w ls hl
  have hx := X.1
  have hb := X.2.1
  have hl : lv_has ls 6 [(0, .ref y), (1, .int (nI x)), (2, .int (nI to))] := hl
  have hz_y := hMO.2.1
  have hy0 : h y = some (20, .inr (10, [.ref (ad 0), .ref (ad 1), .ref (ad 2), .int (iv 3), .int (iv 4), .int (iv 5), .ref (ad 6), .ref (ad 7), .ref (ad 8), .ref (ad 9), .ref (ad 10), .ref (ad 11), .int (iv 12), .ref (ad 13), .ref (ad 14), .ref (ad 15), .ref (ad 16), .ref (ad 17), .ref (ad 18), .ref (ad 19), .int (iv 20), .ref (ad 21), .ref (ad 22), .ref (ad 23), .ref (ad 24), .ref (ad 25), .ref (ad 26), .ref (ad 27), .ref (ad 28), .int (iv 29), .ref (ad 30), .ref (ad 31), .int (iv 32), .int (iv 33), .int (iv 34), .int (iv 35), .long tl, .int (iv 37), .int (iv 38), .int (iv 39), .int (iv 40), .ref (ad 41), .ref (ad 42), .int (iv 43)])) := hMO.1
  have ha0 : h (ad 0) = some (30, .inl (.int, 60, .inl (fv 0))) := (hMO.2.2 0 (by decide)).1
  obtain ⟨hiv3, hln, hl60, hlc⟩ := id hL
  refine lv_iload_n hx hb d_p15m13_0 rfl (lv_at hl 1 rfl) ?_
  refine lv_istore_n (lv' := [(3, .int (nI x)), (0, .ref y), (1, .int (nI x)), (2, .int (nI to))]) hx hb d_p15m13_1 rfl hl (by decide) rfl (fun ls hl => ?_)
  exact lp_Mod_behindType_2 l G h hMO hL hto hxt X hmn (to + 1) x (by omega) (rfl) (by omega) _ _ w ls (lv_sub hl [0, 1, 2, 3] rfl)
theorem d_p15m14_0 : decode prog_15_method_14_code 0 = .ok (.aload_n 0, 1) := by decide +kernel
theorem d_p15m14_1 : decode prog_15_method_14_code 1 = .ok (.aload_n 0, 1) := by decide +kernel
theorem d_p15m14_2 : decode prog_15_method_14_code 2 = .ok (.getfield 13, 3) := by decide +kernel
theorem d_p15m14_5 : decode prog_15_method_14_code 5 = .ok (.iload_n 1, 1) := by decide +kernel
theorem d_p15m14_6 : decode prog_15_method_14_code 6 = .ok (.iaload, 1) := by decide +kernel
theorem d_p15m14_7 : decode prog_15_method_14_code 7 = .ok (.aload_n 0, 1) := by decide +kernel
theorem d_p15m14_8 : decode prog_15_method_14_code 8 = .ok (.getfield 16, 3) := by decide +kernel
theorem d_p15m14_11 : decode prog_15_method_14_code 11 = .ok (.iload_n 1, 1) := by decide +kernel
theorem d_p15m14_12 : decode prog_15_method_14_code 12 = .ok (.iaload, 1) := by decide +kernel
theorem d_p15m14_13 : decode prog_15_method_14_code 13 = .ok (.invokevirtual 136, 3) := by decide +kernel
theorem d_p15m14_16 : decode prog_15_method_14_code 16 = .ok (.aload_n 0, 1) := by decide +kernel
theorem d_p15m14_17 : decode prog_15_method_14_code 17 = .ok (.getfield 16, 3) := by decide +kernel
theorem d_p15m14_20 : decode prog_15_method_14_code 20 = .ok (.iload_n 1, 1) := by decide +kernel
theorem d_p15m14_21 : decode prog_15_method_14_code 21 = .ok (.iaload, 1) := by decide +kernel
theorem d_p15m14_22 : decode prog_15_method_14_code 22 = .ok (.if_icmp .ne 7, 3) := by decide +kernel
theorem d_p15m14_25 : decode prog_15_method_14_code 25 = .ok (.iconst 1, 1) := by decide +kernel
theorem d_p15m14_26 : decode prog_15_method_14_code 26 = .ok (.goto 4, 3) := by decide +kernel
theorem d_p15m14_29 : decode prog_15_method_14_code 29 = .ok (.iconst 0, 1) := by decide +kernel
theorem d_p15m14_30 : decode prog_15_method_14_code 30 = .ok (.ireturn, 1) := by decide +kernel
abbrev y_Mod_isType : MethodName := ⟨"PolicyDeskModel", "isType", "(I)Z"⟩
theorem ok_Mod_isType : pd_ok y_Mod_isType prog_15_method_14_code 2 (some .boolean) 1 := ⟨mT_1353, mT_21, by decide, by decide +kernel⟩
abbrev rm_Mod_isType : Room := { frames := 5, cells := 0, slots := 0, locals := 113 }
set_option maxHeartbeats 4000000 in
set_option maxRecDepth 100000 in
theorem c_Mod_isType (l : Launch) (G : pd_G) (h : pd_H) {y : Nat} {ad : Nat → Nat} {fv : Nat → Nat → Int32} {iv : Nat → Int32} {tl : Int64} {cs : List Nat} {nw i0 : Nat} {sA eA : Nat → Nat} (hMO : pd_MO G h y ad fv iv tl) (hL : gm_L fv iv cs) (hW : gm_W fv cs nw sA eA) (hiw : i0 < nw) : pd_M l y_Mod_isType prog_15_method_14_code 2 (some .boolean) rm_Mod_isType G h [.ref y, .int (nI i0)] pd_vb (fun r h1 => r = decide (gm_type cs (sA i0) (eA i0) = some (eA i0)) ∧ h = h1) := by
  refine pd_M.of (by decide) (Nat.le_of_ble_eq_true rfl) ?_
  intro p e s m below meth c X hmn w ls hl
  have hx := X.1
  have hb := X.2.1
  have hl : lv_has ls 2 [(0, .ref y), (1, .int (nI i0))] := hl
  have hz_y := hMO.2.1
  have hy0 : h y = some (20, .inr (10, [.ref (ad 0), .ref (ad 1), .ref (ad 2), .int (iv 3), .int (iv 4), .int (iv 5), .ref (ad 6), .ref (ad 7), .ref (ad 8), .ref (ad 9), .ref (ad 10), .ref (ad 11), .int (iv 12), .ref (ad 13), .ref (ad 14), .ref (ad 15), .ref (ad 16), .ref (ad 17), .ref (ad 18), .ref (ad 19), .int (iv 20), .ref (ad 21), .ref (ad 22), .ref (ad 23), .ref (ad 24), .ref (ad 25), .ref (ad 26), .ref (ad 27), .ref (ad 28), .int (iv 29), .ref (ad 30), .ref (ad 31), .int (iv 32), .int (iv 33), .int (iv 34), .int (iv 35), .long tl, .int (iv 37), .int (iv 38), .int (iv 39), .int (iv 40), .ref (ad 41), .ref (ad 42), .int (iv 43)])) := hMO.1
  have ha0 : h (ad 0) = some (30, .inl (.int, 60, .inl (fv 0))) := (hMO.2.2 0 (by decide)).1
  have ha1 : h (ad 1) = some (31, .inl (.int, 40, .inl (fv 1))) := (hMO.2.2 1 (by decide)).1
  have ha2 : h (ad 2) = some (32, .inl (.int, 40, .inl (fv 2))) := (hMO.2.2 2 (by decide)).1
  obtain ⟨hiv3, hln, hl60, hlc⟩ := id hL
  have hw31 := hW.1
  obtain ⟨hws, hwe, hwl, hwc⟩ := hW.2 i0 hiw
  refine lv_aload_n hx hb d_p15m14_0 rfl (lv_at hl 0 rfl) ?_
  refine lv_aload_n hx hb d_p15m14_1 rfl (lv_at hl 0 rfl) ?_
  refine pd_get X w hy0 rfl 1 (by decide) mT_1140 rfl rfl d_p15m14_2 ?_
  refine lv_iload_n hx hb d_p15m14_5 rfl (lv_at hl 1 rfl) ?_
  refine pd_iald X w ha1 (by omega) (by omega) d_p15m14_6 ?_
  refine pd_top (v' := .int (nI (sA i0))) (congrArg Value.int hws) ?_
  refine lv_aload_n hx hb d_p15m14_7 rfl (lv_at hl 0 rfl) ?_
  refine pd_get X w hy0 rfl 2 (by decide) mT_1141 rfl rfl d_p15m14_8 ?_
  refine lv_iload_n hx hb d_p15m14_11 rfl (lv_at hl 1 rfl) ?_
  refine pd_iald X w ha2 (by omega) (by omega) d_p15m14_12 ?_
  refine pd_top (v' := .int (nI (eA i0))) (congrArg Value.int hwe) ?_
  refine pd_cV (a := y) (As := [.int (nI (sA i0)), .int (nI (eA i0))]) (rest := []) X w hy0 rfl (c_Mod_behindType l G h (ad := ad) (fv := fv) (iv := iv) (tl := tl) hMO (by assumption) (by omega) (by omega)) ok_Mod_behindType ⟨mT_1348, sT_26⟩ mT_1346 ⟨by decide, by decide⟩ rfl hl.1 rfl (Nat.le_of_ble_eq_true rfl) d_p15m14_13 ⟨by decide, by decide⟩ (fun r1 h2 H locs hp3 w => ?_)
  refine W.widen (k := 0) (n := 0) (by decide) (by decide) ?_
  obtain ⟨e4, rfl⟩ := hp3
  refine lv_aload_n hx hb d_p15m14_16 rfl (lv_at hl 0 rfl) ?_
  refine pd_get X w hy0 rfl 2 (by decide) mT_1141 rfl rfl d_p15m14_17 ?_
  refine lv_iload_n hx hb d_p15m14_20 rfl (lv_at hl 1 rfl) ?_
  refine pd_iald X w ha2 (by omega) (by omega) d_p15m14_21 ?_
  refine pd_top (v' := .int (nI (eA i0))) (congrArg Value.int hwe) ?_
  refine lv_icmp_ne (tgt := 29) hx hb d_p15m14_22 (by decide) (fun q5 => ?_) (fun q5 => ?_)
  · -- taken: 29
    refine lv_iconst (v := nI 0) hx hb d_p15m14_29 (by decide) ?_
    refine W.eq (g2 := F0 m 30 ls [.int (pd_b false)]) rfl ?_
    exact pd_zret (v := false) X w ⟨by rw [← e4]; exact (decide_eq_false (fun z => q5 ((pd_mn (by omega) (fun t9 h9 => by have := gm_type_le (e4.symm.trans h9) (by omega); omega)).mpr z))).symm, rfl⟩ (by decide) (by decide) d_p15m14_30
  · -- not taken: 25
    refine lv_iconst (v := nI 1) hx hb d_p15m14_25 (by decide) ?_
    refine lv_goto (tgt := 30) hx hb d_p15m14_26 (by decide) ?_
    refine W.eq (g2 := F0 m 30 ls [.int (pd_b true)]) rfl ?_
    exact pd_zret (v := true) X w ⟨by rw [← e4]; exact (decide_eq_true ((pd_mn (by omega) (fun t9 h9 => by have := gm_type_le (e4.symm.trans h9) (by omega); omega)).mp q5)).symm, rfl⟩ (by decide) (by decide) d_p15m14_30
def gm_sl (cs : List Nat) (to : Nat) : Nat → Nat → Option Nat
  | 0, _ => none
  | n + 1, k => if k < to ∧ ¬ cs.getD k 0 = 41 then (match gm_type cs k to with
    | none => none
    | some k2 => gm_sl cs to n k2) else some k
theorem gm_sl_y {cs : List Nat} {to n k k2 : Nat} (h : k < to ∧ ¬ cs.getD k 0 = 41) (q : gm_type cs k to = some k2) (hn : 0 < n) : gm_sl cs to n k = gm_sl cs to (n - 1) k2 := by
  obtain ⟨n, rfl⟩ : ∃ z, n = z + 1 := ⟨n - 1, by omega⟩
  rw [gm_sl, if_pos h, q]
  rfl
theorem gm_sl_n {cs : List Nat} {to n k : Nat} (h : k < to ∧ ¬ cs.getD k 0 = 41) (q : gm_type cs k to = none) (hn : 0 < n) : gm_sl cs to n k = none := by
  obtain ⟨n, rfl⟩ : ∃ z, n = z + 1 := ⟨n - 1, by omega⟩
  rw [gm_sl, if_pos h, q]
theorem gm_sl_e {cs : List Nat} {to n k : Nat} (h : ¬ (k < to ∧ ¬ cs.getD k 0 = 41)) (hn : 0 < n) : gm_sl cs to n k = some k := by
  obtain ⟨n, rfl⟩ : ∃ z, n = z + 1 := ⟨n - 1, by omega⟩
  rw [gm_sl, if_neg h]
def gm_shape (cs : List Nat) (x to : Nat) : Bool := if ¬ cs.getD x 0 = 40 then false else match gm_sl cs to (to - x) (x + 1) with
  | none => false
  | some k => if ¬ k < to then false else decide (k + 1 = to - 1 ∧ cs.getD (k + 1) 0 = 86) || decide (k + 1 < to ∧ gm_type cs (k + 1) to = some to)
theorem d_p15m15_0 : decode prog_15_method_15_code 0 = .ok (.aload_n 0, 1) := by decide +kernel
theorem d_p15m15_1 : decode prog_15_method_15_code 1 = .ok (.getfield 13, 3) := by decide +kernel
theorem d_p15m15_4 : decode prog_15_method_15_code 4 = .ok (.iload_n 1, 1) := by decide +kernel
theorem d_p15m15_5 : decode prog_15_method_15_code 5 = .ok (.iaload, 1) := by decide +kernel
theorem d_p15m15_6 : decode prog_15_method_15_code 6 = .ok (.istore_n 2, 1) := by decide +kernel
theorem d_p15m15_7 : decode prog_15_method_15_code 7 = .ok (.aload_n 0, 1) := by decide +kernel
theorem d_p15m15_8 : decode prog_15_method_15_code 8 = .ok (.getfield 16, 3) := by decide +kernel
theorem d_p15m15_11 : decode prog_15_method_15_code 11 = .ok (.iload_n 1, 1) := by decide +kernel
theorem d_p15m15_12 : decode prog_15_method_15_code 12 = .ok (.iaload, 1) := by decide +kernel
theorem d_p15m15_13 : decode prog_15_method_15_code 13 = .ok (.istore_n 3, 1) := by decide +kernel
theorem d_p15m15_14 : decode prog_15_method_15_code 14 = .ok (.aload_n 0, 1) := by decide +kernel
theorem d_p15m15_15 : decode prog_15_method_15_code 15 = .ok (.getfield 7, 3) := by decide +kernel
theorem d_p15m15_18 : decode prog_15_method_15_code 18 = .ok (.iload_n 2, 1) := by decide +kernel
theorem d_p15m15_19 : decode prog_15_method_15_code 19 = .ok (.iaload, 1) := by decide +kernel
theorem d_p15m15_20 : decode prog_15_method_15_code 20 = .ok (.bipush 40, 2) := by decide +kernel
theorem d_p15m15_22 : decode prog_15_method_15_code 22 = .ok (.if_icmp .eq 5, 3) := by decide +kernel
theorem d_p15m15_25 : decode prog_15_method_15_code 25 = .ok (.iconst 0, 1) := by decide +kernel
theorem d_p15m15_26 : decode prog_15_method_15_code 26 = .ok (.ireturn, 1) := by decide +kernel
theorem d_p15m15_27 : decode prog_15_method_15_code 27 = .ok (.iinc 2 1, 3) := by decide +kernel
theorem d_p15m15_30 : decode prog_15_method_15_code 30 = .ok (.iload_n 2, 1) := by decide +kernel
theorem d_p15m15_31 : decode prog_15_method_15_code 31 = .ok (.iload_n 3, 1) := by decide +kernel
theorem d_p15m15_32 : decode prog_15_method_15_code 32 = .ok (.if_icmp .ge 27, 3) := by decide +kernel
theorem d_p15m15_35 : decode prog_15_method_15_code 35 = .ok (.aload_n 0, 1) := by decide +kernel
theorem d_p15m15_36 : decode prog_15_method_15_code 36 = .ok (.getfield 7, 3) := by decide +kernel
theorem d_p15m15_39 : decode prog_15_method_15_code 39 = .ok (.iload_n 2, 1) := by decide +kernel
theorem d_p15m15_40 : decode prog_15_method_15_code 40 = .ok (.iaload, 1) := by decide +kernel
theorem d_p15m15_41 : decode prog_15_method_15_code 41 = .ok (.bipush 41, 2) := by decide +kernel
theorem d_p15m15_43 : decode prog_15_method_15_code 43 = .ok (.if_icmp .eq 16, 3) := by decide +kernel
theorem d_p15m15_46 : decode prog_15_method_15_code 46 = .ok (.aload_n 0, 1) := by decide +kernel
theorem d_p15m15_47 : decode prog_15_method_15_code 47 = .ok (.iload_n 2, 1) := by decide +kernel
theorem d_p15m15_48 : decode prog_15_method_15_code 48 = .ok (.iload_n 3, 1) := by decide +kernel
theorem d_p15m15_49 : decode prog_15_method_15_code 49 = .ok (.invokevirtual 136, 3) := by decide +kernel
theorem d_p15m15_52 : decode prog_15_method_15_code 52 = .ok (.istore_n 2, 1) := by decide +kernel
theorem d_p15m15_53 : decode prog_15_method_15_code 53 = .ok (.iload_n 2, 1) := by decide +kernel
theorem d_p15m15_54 : decode prog_15_method_15_code 54 = .ok (.ifCond .ge (-24), 3) := by decide +kernel
theorem d_p15m15_57 : decode prog_15_method_15_code 57 = .ok (.iconst 0, 1) := by decide +kernel
theorem d_p15m15_58 : decode prog_15_method_15_code 58 = .ok (.ireturn, 1) := by decide +kernel
theorem d_p15m15_59 : decode prog_15_method_15_code 59 = .ok (.iload_n 2, 1) := by decide +kernel
theorem d_p15m15_60 : decode prog_15_method_15_code 60 = .ok (.iload_n 3, 1) := by decide +kernel
theorem d_p15m15_61 : decode prog_15_method_15_code 61 = .ok (.if_icmp .lt 5, 3) := by decide +kernel
theorem d_p15m15_64 : decode prog_15_method_15_code 64 = .ok (.iconst 0, 1) := by decide +kernel
theorem d_p15m15_65 : decode prog_15_method_15_code 65 = .ok (.ireturn, 1) := by decide +kernel
theorem d_p15m15_66 : decode prog_15_method_15_code 66 = .ok (.iinc 2 1, 3) := by decide +kernel
theorem d_p15m15_69 : decode prog_15_method_15_code 69 = .ok (.iload_n 2, 1) := by decide +kernel
theorem d_p15m15_70 : decode prog_15_method_15_code 70 = .ok (.iload_n 3, 1) := by decide +kernel
theorem d_p15m15_71 : decode prog_15_method_15_code 71 = .ok (.iconst 1, 1) := by decide +kernel
theorem d_p15m15_72 : decode prog_15_method_15_code 72 = .ok (.isub, 1) := by decide +kernel
theorem d_p15m15_73 : decode prog_15_method_15_code 73 = .ok (.if_icmp .ne 14, 3) := by decide +kernel
theorem d_p15m15_76 : decode prog_15_method_15_code 76 = .ok (.aload_n 0, 1) := by decide +kernel
theorem d_p15m15_77 : decode prog_15_method_15_code 77 = .ok (.getfield 7, 3) := by decide +kernel
theorem d_p15m15_80 : decode prog_15_method_15_code 80 = .ok (.iload_n 2, 1) := by decide +kernel
theorem d_p15m15_81 : decode prog_15_method_15_code 81 = .ok (.iaload, 1) := by decide +kernel
theorem d_p15m15_82 : decode prog_15_method_15_code 82 = .ok (.bipush 86, 2) := by decide +kernel
theorem d_p15m15_84 : decode prog_15_method_15_code 84 = .ok (.if_icmp .eq 18, 3) := by decide +kernel
theorem d_p15m15_87 : decode prog_15_method_15_code 87 = .ok (.iload_n 2, 1) := by decide +kernel
theorem d_p15m15_88 : decode prog_15_method_15_code 88 = .ok (.iload_n 3, 1) := by decide +kernel
theorem d_p15m15_89 : decode prog_15_method_15_code 89 = .ok (.if_icmp .ge 17, 3) := by decide +kernel
theorem d_p15m15_92 : decode prog_15_method_15_code 92 = .ok (.aload_n 0, 1) := by decide +kernel
theorem d_p15m15_93 : decode prog_15_method_15_code 93 = .ok (.iload_n 2, 1) := by decide +kernel
theorem d_p15m15_94 : decode prog_15_method_15_code 94 = .ok (.iload_n 3, 1) := by decide +kernel
theorem d_p15m15_95 : decode prog_15_method_15_code 95 = .ok (.invokevirtual 136, 3) := by decide +kernel
theorem d_p15m15_98 : decode prog_15_method_15_code 98 = .ok (.iload_n 3, 1) := by decide +kernel
theorem d_p15m15_99 : decode prog_15_method_15_code 99 = .ok (.if_icmp .ne 7, 3) := by decide +kernel
theorem d_p15m15_102 : decode prog_15_method_15_code 102 = .ok (.iconst 1, 1) := by decide +kernel
theorem d_p15m15_103 : decode prog_15_method_15_code 103 = .ok (.goto 4, 3) := by decide +kernel
theorem d_p15m15_106 : decode prog_15_method_15_code 106 = .ok (.iconst 0, 1) := by decide +kernel
theorem d_p15m15_107 : decode prog_15_method_15_code 107 = .ok (.ireturn, 1) := by decide +kernel
abbrev y_Mod_isShape : MethodName := ⟨"PolicyDeskModel", "isShape", "(I)Z"⟩
theorem ok_Mod_isShape : pd_ok y_Mod_isShape prog_15_method_15_code 4 (some .boolean) 1 := ⟨mT_1345, mT_21, by decide, by decide +kernel⟩
abbrev rm_Mod_isShape : Room := { frames := 5, cells := 0, slots := 0, locals := 113 }
set_option maxHeartbeats 4000000 in
set_option maxRecDepth 100000 in
theorem lp_Mod_isShape_30 (l : Launch) (G : pd_G) (h : pd_H) {y : Nat} {ad : Nat → Nat} {fv : Nat → Nat → Int32} {iv : Nat → Int32} {tl : Int64} {cs : List Nat} {nw i0 : Nat} {sA eA : Nat → Nat} (hMO : pd_MO G h y ad fv iv tl) (hL : gm_L fv iv cs) (hW : gm_W fv cs nw sA eA) (hiw : i0 < nw) {p : Program} {e : Env} {s : State} {m : MethodId} {below : List Frame} {meth : Method} {c : Code} (X : pd_B p s m [.ref y, .int (nI i0)].toArray meth c G y_Mod_isShape.cls prog_15_method_15_code 4 (some .boolean)) (hmn : meth.name = y_Mod_isShape.name) :
    ∀ (kk9 : Nat) (k9 : Nat) (fe : Nat), (cs.getD (sA i0) 0 = 40) → (sA i0 < k9 ∧ k9 ≤ eA i0 ∧ eA i0 < fe + k9) → (gm_sl cs (eA i0) fe k9 = gm_sl cs (eA i0) (eA i0 - sA i0) (sA i0 + 1)) → eA i0 - k9 < kk9 → ∀ (H : Heap) (locs : List Loc), pd_w G s H locs h → ∀ ls : Array Slot, lv_has ls 4 [(2, .int (nI k9)), (3, .int (nI (eA i0))), (0, .ref y), (1, .int (nI i0))] → W p l e rm_Mod_isShape s m [.ref y, .int (nI i0)].toArray below meth c H locs 0 0 (MQ below (pd_Q G pd_vb (fun r h1 => r = gm_shape cs (sA i0) (eA i0) ∧ h = h1)) [.ref y, .int (nI i0)].toArray s rm_Mod_isShape.cells rm_Mod_isShape.slots (fun q => G.2.1 ≤ q)) (F0 m 30 ls []) := by
  have hx := X.1
  have hb := X.2.1
  have hz_y := hMO.2.1
  have hy0 : h y = some (20, .inr (10, [.ref (ad 0), .ref (ad 1), .ref (ad 2), .int (iv 3), .int (iv 4), .int (iv 5), .ref (ad 6), .ref (ad 7), .ref (ad 8), .ref (ad 9), .ref (ad 10), .ref (ad 11), .int (iv 12), .ref (ad 13), .ref (ad 14), .ref (ad 15), .ref (ad 16), .ref (ad 17), .ref (ad 18), .ref (ad 19), .int (iv 20), .ref (ad 21), .ref (ad 22), .ref (ad 23), .ref (ad 24), .ref (ad 25), .ref (ad 26), .ref (ad 27), .ref (ad 28), .int (iv 29), .ref (ad 30), .ref (ad 31), .int (iv 32), .int (iv 33), .int (iv 34), .int (iv 35), .long tl, .int (iv 37), .int (iv 38), .int (iv 39), .int (iv 40), .ref (ad 41), .ref (ad 42), .int (iv 43)])) := hMO.1
  have ha0 : h (ad 0) = some (30, .inl (.int, 60, .inl (fv 0))) := (hMO.2.2 0 (by decide)).1
  have ha1 : h (ad 1) = some (31, .inl (.int, 40, .inl (fv 1))) := (hMO.2.2 1 (by decide)).1
  have ha2 : h (ad 2) = some (32, .inl (.int, 40, .inl (fv 2))) := (hMO.2.2 2 (by decide)).1
  obtain ⟨hiv3, hln, hl60, hlc⟩ := id hL
  have hw31 := hW.1
  obtain ⟨hws, hwe, hwl, hwc⟩ := hW.2 i0 hiw
  intro kk9
  induction kk9 with
  | zero => intros; omega
  | succ kk9 ih =>
    intro k9 fe h40 hk9 hv hmu H locs w ls hl
    refine lv_iload_n hx hb d_p15m15_30 rfl (lv_at hl 0 rfl) ?_
    refine lv_iload_n hx hb d_p15m15_31 rfl (lv_at hl 1 rfl) ?_
    refine pd_jge (tgt := 59) hx hb d_p15m15_32 (by decide) (by omega) (by omega) (fun q1 => ?_) (fun q1 => ?_)
    · -- taken: 59
      have hsl : gm_sl cs (eA i0) (eA i0 - sA i0) (sA i0 + 1) = some k9 := by rw [← hv, gm_sl_e (by omega) (by omega)]
      refine lv_iload_n hx hb d_p15m15_59 rfl (lv_at hl 0 rfl) ?_
      refine lv_iload_n hx hb d_p15m15_60 rfl (lv_at hl 1 rfl) ?_
      refine pd_jlt (tgt := 66) hx hb d_p15m15_61 (by decide) (by omega) (by omega) (fun q2 => ?_) (fun q2 => ?_)
      · -- taken: 66
        refine pd_iinc (k := 0) (d := 1) (lv' := [(2, .int (nI (k9 + 1))), (3, .int (nI (eA i0))), (0, .ref y), (1, .int (nI i0))]) hx hb d_p15m15_66 (by decide) hl rfl (by decide) rfl (fun ls hl => ?_)
        refine lv_iload_n hx hb d_p15m15_69 rfl (lv_at hl 0 rfl) ?_
        refine lv_iload_n hx hb d_p15m15_70 rfl (lv_at hl 1 rfl) ?_
        refine lv_iconst (v := nI 1) hx hb d_p15m15_71 (by decide) ?_
        refine pd_isub hx hb d_p15m15_72 (by omega) ?_
        refine pd_jne (tgt := 87) hx hb d_p15m15_73 (by decide) (by omega) (by omega) (fun q3 => ?_) (fun q3 => ?_)
        · -- taken: 87
          refine lv_iload_n hx hb d_p15m15_87 rfl (lv_at hl 0 rfl) ?_
          refine lv_iload_n hx hb d_p15m15_88 rfl (lv_at hl 1 rfl) ?_
          refine pd_jge (tgt := 106) hx hb d_p15m15_89 (by decide) (by omega) (by omega) (fun q4 => ?_) (fun q4 => ?_)
          · -- taken: 106
            refine lv_iconst (v := nI 0) hx hb d_p15m15_106 (by decide) ?_
            refine W.eq (g2 := F0 m 107 ls [.int (pd_b false)]) rfl ?_
            exact pd_zret (v := false) X w ⟨by unfold gm_shape; rw [if_neg (by omega)]; simp only [hsl]; rw [if_neg (by omega), decide_eq_false (fun z => by omega : ¬ (k9 + 1 = eA i0 - 1 ∧ cs.getD (k9 + 1) 0 = 86)), decide_eq_false (fun z => by omega : ¬ (k9 + 1 < eA i0 ∧ gm_type cs (k9 + 1) (eA i0) = some (eA i0)))]; rfl, rfl⟩ (by decide) (by decide) d_p15m15_107
          · -- not taken: 92
            refine lv_aload_n hx hb d_p15m15_92 rfl (lv_at hl 2 rfl) ?_
            refine lv_iload_n hx hb d_p15m15_93 rfl (lv_at hl 0 rfl) ?_
            refine lv_iload_n hx hb d_p15m15_94 rfl (lv_at hl 1 rfl) ?_
            refine pd_cV (a := y) (As := [.int (nI (k9 + 1)), .int (nI (eA i0))]) (rest := []) X w hy0 rfl (c_Mod_behindType l G h (ad := ad) (fv := fv) (iv := iv) (tl := tl) hMO (by assumption) (by omega) (by omega)) ok_Mod_behindType ⟨mT_1348, sT_26⟩ mT_1346 ⟨by decide, by decide⟩ rfl hl.1 rfl (Nat.le_of_ble_eq_true rfl) d_p15m15_95 ⟨by decide, by decide⟩ (fun r5 h6 H locs hp7 w => ?_)
            refine W.widen (k := 0) (n := 0) (by decide) (by decide) ?_
            obtain ⟨e8, rfl⟩ := hp7
            refine lv_iload_n hx hb d_p15m15_98 rfl (lv_at hl 1 rfl) ?_
            refine lv_icmp_ne (tgt := 106) hx hb d_p15m15_99 (by decide) (fun q9 => ?_) (fun q9 => ?_)
            · -- taken: 106
              refine lv_iconst (v := nI 0) hx hb d_p15m15_106 (by decide) ?_
              refine W.eq (g2 := F0 m 107 ls [.int (pd_b false)]) rfl ?_
              exact pd_zret (v := false) X w ⟨by unfold gm_shape; rw [if_neg (by omega)]; simp only [hsl]; rw [if_neg (by omega), decide_eq_false (fun z => by omega : ¬ (k9 + 1 = eA i0 - 1 ∧ cs.getD (k9 + 1) 0 = 86)), decide_eq_false (fun z => q9 ((pd_mn (by omega) (fun t9 h9 => by have := gm_type_le (e8.symm.trans h9) (by omega); omega)).mpr (e8.trans z.2)) : ¬ (k9 + 1 < eA i0 ∧ gm_type cs (k9 + 1) (eA i0) = some (eA i0)))]; rfl, rfl⟩ (by decide) (by decide) d_p15m15_107
            · -- not taken: 102
              refine lv_iconst (v := nI 1) hx hb d_p15m15_102 (by decide) ?_
              refine lv_goto (tgt := 107) hx hb d_p15m15_103 (by decide) ?_
              refine W.eq (g2 := F0 m 107 ls [.int (pd_b true)]) rfl ?_
              exact pd_zret (v := true) X w ⟨by unfold gm_shape; rw [if_neg (by omega)]; simp only [hsl]; rw [if_neg (by omega), decide_eq_true (⟨by omega, e8.symm.trans ((pd_mn (by omega) (fun t9 h9 => by have := gm_type_le (e8.symm.trans h9) (by omega); omega)).mp q9)⟩ : k9 + 1 < eA i0 ∧ gm_type cs (k9 + 1) (eA i0) = some (eA i0)), Bool.or_true], rfl⟩ (by decide) (by decide) d_p15m15_107
        · -- not taken: 76
          refine lv_aload_n hx hb d_p15m15_76 rfl (lv_at hl 2 rfl) ?_
          refine pd_get X w hy0 rfl 0 (by decide) mT_1139 rfl rfl d_p15m15_77 ?_
          refine lv_iload_n hx hb d_p15m15_80 rfl (lv_at hl 0 rfl) ?_
          refine pd_iald X w ha0 (by omega) (by omega) d_p15m15_81 ?_
          refine pd_top (v' := .int (nI (cs.getD (k9 + 1) 0))) (congrArg Value.int (hln _ (by omega))) ?_
          have := tx_lt hlc (k9 + 1)
          refine lv_bipush (v := nI 86) hx hb d_p15m15_82 (by decide) ?_
          refine pd_jeq (tgt := 102) hx hb d_p15m15_84 (by decide) (by omega) (by omega) (fun q10 => ?_) (fun q10 => ?_)
          · -- taken: 102
            refine lv_iconst (v := nI 1) hx hb d_p15m15_102 (by decide) ?_
            refine lv_goto (tgt := 107) hx hb d_p15m15_103 (by decide) ?_
            refine W.eq (g2 := F0 m 107 ls [.int (pd_b true)]) rfl ?_
            exact pd_zret (v := true) X w ⟨by unfold gm_shape; rw [if_neg (by omega)]; simp only [hsl]; rw [if_neg (by omega), decide_eq_true (⟨by omega, by omega⟩ : k9 + 1 = eA i0 - 1 ∧ cs.getD (k9 + 1) 0 = 86)]; rfl, rfl⟩ (by decide) (by decide) d_p15m15_107
          · -- not taken: 87
            refine lv_iload_n hx hb d_p15m15_87 rfl (lv_at hl 0 rfl) ?_
            refine lv_iload_n hx hb d_p15m15_88 rfl (lv_at hl 1 rfl) ?_
            refine pd_jge (tgt := 106) hx hb d_p15m15_89 (by decide) (by omega) (by omega) (fun q11 => ?_) (fun q11 => ?_)
            · -- taken: 106
              refine lv_iconst (v := nI 0) hx hb d_p15m15_106 (by decide) ?_
              refine W.eq (g2 := F0 m 107 ls [.int (pd_b false)]) rfl ?_
              exact pd_zret (v := false) X w ⟨by unfold gm_shape; rw [if_neg (by omega)]; simp only [hsl]; rw [if_neg (by omega), decide_eq_false (fun z => by omega : ¬ (k9 + 1 = eA i0 - 1 ∧ cs.getD (k9 + 1) 0 = 86)), decide_eq_false (fun z => by omega : ¬ (k9 + 1 < eA i0 ∧ gm_type cs (k9 + 1) (eA i0) = some (eA i0)))]; rfl, rfl⟩ (by decide) (by decide) d_p15m15_107
            · -- not taken: 92
              refine lv_aload_n hx hb d_p15m15_92 rfl (lv_at hl 2 rfl) ?_
              refine lv_iload_n hx hb d_p15m15_93 rfl (lv_at hl 0 rfl) ?_
              refine lv_iload_n hx hb d_p15m15_94 rfl (lv_at hl 1 rfl) ?_
              refine pd_cV (a := y) (As := [.int (nI (k9 + 1)), .int (nI (eA i0))]) (rest := []) X w hy0 rfl (c_Mod_behindType l G h (ad := ad) (fv := fv) (iv := iv) (tl := tl) hMO (by assumption) (by omega) (by omega)) ok_Mod_behindType ⟨mT_1348, sT_26⟩ mT_1346 ⟨by decide, by decide⟩ rfl hl.1 rfl (Nat.le_of_ble_eq_true rfl) d_p15m15_95 ⟨by decide, by decide⟩ (fun r12 h13 H locs hp14 w => ?_)
              refine W.widen (k := 0) (n := 0) (by decide) (by decide) ?_
              obtain ⟨e15, rfl⟩ := hp14
              refine lv_iload_n hx hb d_p15m15_98 rfl (lv_at hl 1 rfl) ?_
              refine lv_icmp_ne (tgt := 106) hx hb d_p15m15_99 (by decide) (fun q16 => ?_) (fun q16 => ?_)
              · -- taken: 106
                refine lv_iconst (v := nI 0) hx hb d_p15m15_106 (by decide) ?_
                refine W.eq (g2 := F0 m 107 ls [.int (pd_b false)]) rfl ?_
                exact pd_zret (v := false) X w ⟨by unfold gm_shape; rw [if_neg (by omega)]; simp only [hsl]; rw [if_neg (by omega), decide_eq_false (fun z => by omega : ¬ (k9 + 1 = eA i0 - 1 ∧ cs.getD (k9 + 1) 0 = 86)), decide_eq_false (fun z => q16 ((pd_mn (by omega) (fun t9 h9 => by have := gm_type_le (e15.symm.trans h9) (by omega); omega)).mpr (e15.trans z.2)) : ¬ (k9 + 1 < eA i0 ∧ gm_type cs (k9 + 1) (eA i0) = some (eA i0)))]; rfl, rfl⟩ (by decide) (by decide) d_p15m15_107
              · -- not taken: 102
                refine lv_iconst (v := nI 1) hx hb d_p15m15_102 (by decide) ?_
                refine lv_goto (tgt := 107) hx hb d_p15m15_103 (by decide) ?_
                refine W.eq (g2 := F0 m 107 ls [.int (pd_b true)]) rfl ?_
                exact pd_zret (v := true) X w ⟨by unfold gm_shape; rw [if_neg (by omega)]; simp only [hsl]; rw [if_neg (by omega), decide_eq_true (⟨by omega, e15.symm.trans ((pd_mn (by omega) (fun t9 h9 => by have := gm_type_le (e15.symm.trans h9) (by omega); omega)).mp q16)⟩ : k9 + 1 < eA i0 ∧ gm_type cs (k9 + 1) (eA i0) = some (eA i0)), Bool.or_true], rfl⟩ (by decide) (by decide) d_p15m15_107
      · -- not taken: 64
        refine lv_iconst (v := nI 0) hx hb d_p15m15_64 (by decide) ?_
        refine W.eq (g2 := F0 m 65 ls [.int (pd_b false)]) rfl ?_
        exact pd_zret (v := false) X w ⟨by unfold gm_shape; rw [if_neg (by omega)]; simp only [hsl]; rw [if_pos (by omega)], rfl⟩ (by decide) (by decide) d_p15m15_65
    · -- not taken: 35
      refine lv_aload_n hx hb d_p15m15_35 rfl (lv_at hl 2 rfl) ?_
      refine pd_get X w hy0 rfl 0 (by decide) mT_1139 rfl rfl d_p15m15_36 ?_
      refine lv_iload_n hx hb d_p15m15_39 rfl (lv_at hl 0 rfl) ?_
      refine pd_iald X w ha0 (by omega) (by omega) d_p15m15_40 ?_
      refine pd_top (v' := .int (nI (cs.getD k9 0))) (congrArg Value.int (hln _ (by omega))) ?_
      have := tx_lt hlc k9
      refine lv_bipush (v := nI 41) hx hb d_p15m15_41 (by decide) ?_
      refine pd_jeq (tgt := 59) hx hb d_p15m15_43 (by decide) (by omega) (by omega) (fun q17 => ?_) (fun q17 => ?_)
      · -- taken: 59
        have hsl : gm_sl cs (eA i0) (eA i0 - sA i0) (sA i0 + 1) = some k9 := by rw [← hv, gm_sl_e (by omega) (by omega)]
        refine lv_iload_n hx hb d_p15m15_59 rfl (lv_at hl 0 rfl) ?_
        refine lv_iload_n hx hb d_p15m15_60 rfl (lv_at hl 1 rfl) ?_
        refine pd_jlt (tgt := 66) hx hb d_p15m15_61 (by decide) (by omega) (by omega) (fun q18 => ?_) (fun q18 => ?_)
        · -- taken: 66
          refine pd_iinc (k := 0) (d := 1) (lv' := [(2, .int (nI (k9 + 1))), (3, .int (nI (eA i0))), (0, .ref y), (1, .int (nI i0))]) hx hb d_p15m15_66 (by decide) hl rfl (by decide) rfl (fun ls hl => ?_)
          refine lv_iload_n hx hb d_p15m15_69 rfl (lv_at hl 0 rfl) ?_
          refine lv_iload_n hx hb d_p15m15_70 rfl (lv_at hl 1 rfl) ?_
          refine lv_iconst (v := nI 1) hx hb d_p15m15_71 (by decide) ?_
          refine pd_isub hx hb d_p15m15_72 (by omega) ?_
          refine pd_jne (tgt := 87) hx hb d_p15m15_73 (by decide) (by omega) (by omega) (fun q19 => ?_) (fun q19 => ?_)
          · -- taken: 87
            refine lv_iload_n hx hb d_p15m15_87 rfl (lv_at hl 0 rfl) ?_
            refine lv_iload_n hx hb d_p15m15_88 rfl (lv_at hl 1 rfl) ?_
            refine pd_jge (tgt := 106) hx hb d_p15m15_89 (by decide) (by omega) (by omega) (fun q20 => ?_) (fun q20 => ?_)
            · -- taken: 106
              refine lv_iconst (v := nI 0) hx hb d_p15m15_106 (by decide) ?_
              refine W.eq (g2 := F0 m 107 ls [.int (pd_b false)]) rfl ?_
              exact pd_zret (v := false) X w ⟨by unfold gm_shape; rw [if_neg (by omega)]; simp only [hsl]; rw [if_neg (by omega), decide_eq_false (fun z => by omega : ¬ (k9 + 1 = eA i0 - 1 ∧ cs.getD (k9 + 1) 0 = 86)), decide_eq_false (fun z => by omega : ¬ (k9 + 1 < eA i0 ∧ gm_type cs (k9 + 1) (eA i0) = some (eA i0)))]; rfl, rfl⟩ (by decide) (by decide) d_p15m15_107
            · -- not taken: 92
              refine lv_aload_n hx hb d_p15m15_92 rfl (lv_at hl 2 rfl) ?_
              refine lv_iload_n hx hb d_p15m15_93 rfl (lv_at hl 0 rfl) ?_
              refine lv_iload_n hx hb d_p15m15_94 rfl (lv_at hl 1 rfl) ?_
              refine pd_cV (a := y) (As := [.int (nI (k9 + 1)), .int (nI (eA i0))]) (rest := []) X w hy0 rfl (c_Mod_behindType l G h (ad := ad) (fv := fv) (iv := iv) (tl := tl) hMO (by assumption) (by omega) (by omega)) ok_Mod_behindType ⟨mT_1348, sT_26⟩ mT_1346 ⟨by decide, by decide⟩ rfl hl.1 rfl (Nat.le_of_ble_eq_true rfl) d_p15m15_95 ⟨by decide, by decide⟩ (fun r21 h22 H locs hp23 w => ?_)
              refine W.widen (k := 0) (n := 0) (by decide) (by decide) ?_
              obtain ⟨e24, rfl⟩ := hp23
              refine lv_iload_n hx hb d_p15m15_98 rfl (lv_at hl 1 rfl) ?_
              refine lv_icmp_ne (tgt := 106) hx hb d_p15m15_99 (by decide) (fun q25 => ?_) (fun q25 => ?_)
              · -- taken: 106
                refine lv_iconst (v := nI 0) hx hb d_p15m15_106 (by decide) ?_
                refine W.eq (g2 := F0 m 107 ls [.int (pd_b false)]) rfl ?_
                exact pd_zret (v := false) X w ⟨by unfold gm_shape; rw [if_neg (by omega)]; simp only [hsl]; rw [if_neg (by omega), decide_eq_false (fun z => by omega : ¬ (k9 + 1 = eA i0 - 1 ∧ cs.getD (k9 + 1) 0 = 86)), decide_eq_false (fun z => q25 ((pd_mn (by omega) (fun t9 h9 => by have := gm_type_le (e24.symm.trans h9) (by omega); omega)).mpr (e24.trans z.2)) : ¬ (k9 + 1 < eA i0 ∧ gm_type cs (k9 + 1) (eA i0) = some (eA i0)))]; rfl, rfl⟩ (by decide) (by decide) d_p15m15_107
              · -- not taken: 102
                refine lv_iconst (v := nI 1) hx hb d_p15m15_102 (by decide) ?_
                refine lv_goto (tgt := 107) hx hb d_p15m15_103 (by decide) ?_
                refine W.eq (g2 := F0 m 107 ls [.int (pd_b true)]) rfl ?_
                exact pd_zret (v := true) X w ⟨by unfold gm_shape; rw [if_neg (by omega)]; simp only [hsl]; rw [if_neg (by omega), decide_eq_true (⟨by omega, e24.symm.trans ((pd_mn (by omega) (fun t9 h9 => by have := gm_type_le (e24.symm.trans h9) (by omega); omega)).mp q25)⟩ : k9 + 1 < eA i0 ∧ gm_type cs (k9 + 1) (eA i0) = some (eA i0)), Bool.or_true], rfl⟩ (by decide) (by decide) d_p15m15_107
          · -- not taken: 76
            refine lv_aload_n hx hb d_p15m15_76 rfl (lv_at hl 2 rfl) ?_
            refine pd_get X w hy0 rfl 0 (by decide) mT_1139 rfl rfl d_p15m15_77 ?_
            refine lv_iload_n hx hb d_p15m15_80 rfl (lv_at hl 0 rfl) ?_
            refine pd_iald X w ha0 (by omega) (by omega) d_p15m15_81 ?_
            refine pd_top (v' := .int (nI (cs.getD (k9 + 1) 0))) (congrArg Value.int (hln _ (by omega))) ?_
            have := tx_lt hlc (k9 + 1)
            refine lv_bipush (v := nI 86) hx hb d_p15m15_82 (by decide) ?_
            refine pd_jeq (tgt := 102) hx hb d_p15m15_84 (by decide) (by omega) (by omega) (fun q26 => ?_) (fun q26 => ?_)
            · -- taken: 102
              refine lv_iconst (v := nI 1) hx hb d_p15m15_102 (by decide) ?_
              refine lv_goto (tgt := 107) hx hb d_p15m15_103 (by decide) ?_
              refine W.eq (g2 := F0 m 107 ls [.int (pd_b true)]) rfl ?_
              exact pd_zret (v := true) X w ⟨by unfold gm_shape; rw [if_neg (by omega)]; simp only [hsl]; rw [if_neg (by omega), decide_eq_true (⟨by omega, by omega⟩ : k9 + 1 = eA i0 - 1 ∧ cs.getD (k9 + 1) 0 = 86)]; rfl, rfl⟩ (by decide) (by decide) d_p15m15_107
            · -- not taken: 87
              refine lv_iload_n hx hb d_p15m15_87 rfl (lv_at hl 0 rfl) ?_
              refine lv_iload_n hx hb d_p15m15_88 rfl (lv_at hl 1 rfl) ?_
              refine pd_jge (tgt := 106) hx hb d_p15m15_89 (by decide) (by omega) (by omega) (fun q27 => ?_) (fun q27 => ?_)
              · -- taken: 106
                refine lv_iconst (v := nI 0) hx hb d_p15m15_106 (by decide) ?_
                refine W.eq (g2 := F0 m 107 ls [.int (pd_b false)]) rfl ?_
                exact pd_zret (v := false) X w ⟨by unfold gm_shape; rw [if_neg (by omega)]; simp only [hsl]; rw [if_neg (by omega), decide_eq_false (fun z => by omega : ¬ (k9 + 1 = eA i0 - 1 ∧ cs.getD (k9 + 1) 0 = 86)), decide_eq_false (fun z => by omega : ¬ (k9 + 1 < eA i0 ∧ gm_type cs (k9 + 1) (eA i0) = some (eA i0)))]; rfl, rfl⟩ (by decide) (by decide) d_p15m15_107
              · -- not taken: 92
                refine lv_aload_n hx hb d_p15m15_92 rfl (lv_at hl 2 rfl) ?_
                refine lv_iload_n hx hb d_p15m15_93 rfl (lv_at hl 0 rfl) ?_
                refine lv_iload_n hx hb d_p15m15_94 rfl (lv_at hl 1 rfl) ?_
                refine pd_cV (a := y) (As := [.int (nI (k9 + 1)), .int (nI (eA i0))]) (rest := []) X w hy0 rfl (c_Mod_behindType l G h (ad := ad) (fv := fv) (iv := iv) (tl := tl) hMO (by assumption) (by omega) (by omega)) ok_Mod_behindType ⟨mT_1348, sT_26⟩ mT_1346 ⟨by decide, by decide⟩ rfl hl.1 rfl (Nat.le_of_ble_eq_true rfl) d_p15m15_95 ⟨by decide, by decide⟩ (fun r28 h29 H locs hp30 w => ?_)
                refine W.widen (k := 0) (n := 0) (by decide) (by decide) ?_
                obtain ⟨e31, rfl⟩ := hp30
                refine lv_iload_n hx hb d_p15m15_98 rfl (lv_at hl 1 rfl) ?_
                refine lv_icmp_ne (tgt := 106) hx hb d_p15m15_99 (by decide) (fun q32 => ?_) (fun q32 => ?_)
                · -- taken: 106
                  refine lv_iconst (v := nI 0) hx hb d_p15m15_106 (by decide) ?_
                  refine W.eq (g2 := F0 m 107 ls [.int (pd_b false)]) rfl ?_
                  exact pd_zret (v := false) X w ⟨by unfold gm_shape; rw [if_neg (by omega)]; simp only [hsl]; rw [if_neg (by omega), decide_eq_false (fun z => by omega : ¬ (k9 + 1 = eA i0 - 1 ∧ cs.getD (k9 + 1) 0 = 86)), decide_eq_false (fun z => q32 ((pd_mn (by omega) (fun t9 h9 => by have := gm_type_le (e31.symm.trans h9) (by omega); omega)).mpr (e31.trans z.2)) : ¬ (k9 + 1 < eA i0 ∧ gm_type cs (k9 + 1) (eA i0) = some (eA i0)))]; rfl, rfl⟩ (by decide) (by decide) d_p15m15_107
                · -- not taken: 102
                  refine lv_iconst (v := nI 1) hx hb d_p15m15_102 (by decide) ?_
                  refine lv_goto (tgt := 107) hx hb d_p15m15_103 (by decide) ?_
                  refine W.eq (g2 := F0 m 107 ls [.int (pd_b true)]) rfl ?_
                  exact pd_zret (v := true) X w ⟨by unfold gm_shape; rw [if_neg (by omega)]; simp only [hsl]; rw [if_neg (by omega), decide_eq_true (⟨by omega, e31.symm.trans ((pd_mn (by omega) (fun t9 h9 => by have := gm_type_le (e31.symm.trans h9) (by omega); omega)).mp q32)⟩ : k9 + 1 < eA i0 ∧ gm_type cs (k9 + 1) (eA i0) = some (eA i0)), Bool.or_true], rfl⟩ (by decide) (by decide) d_p15m15_107
        · -- not taken: 64
          refine lv_iconst (v := nI 0) hx hb d_p15m15_64 (by decide) ?_
          refine W.eq (g2 := F0 m 65 ls [.int (pd_b false)]) rfl ?_
          exact pd_zret (v := false) X w ⟨by unfold gm_shape; rw [if_neg (by omega)]; simp only [hsl]; rw [if_pos (by omega)], rfl⟩ (by decide) (by decide) d_p15m15_65
      · -- not taken: 46
        refine lv_aload_n hx hb d_p15m15_46 rfl (lv_at hl 2 rfl) ?_
        refine lv_iload_n hx hb d_p15m15_47 rfl (lv_at hl 0 rfl) ?_
        refine lv_iload_n hx hb d_p15m15_48 rfl (lv_at hl 1 rfl) ?_
        refine pd_cV (a := y) (As := [.int (nI k9), .int (nI (eA i0))]) (rest := []) X w hy0 rfl (c_Mod_behindType l G h (ad := ad) (fv := fv) (iv := iv) (tl := tl) hMO (by assumption) (by omega) (by omega)) ok_Mod_behindType ⟨mT_1348, sT_26⟩ mT_1346 ⟨by decide, by decide⟩ rfl hl.1 rfl (Nat.le_of_ble_eq_true rfl) d_p15m15_49 ⟨by decide, by decide⟩ (fun r33 h34 H locs hp35 w => ?_)
        refine W.widen (k := 0) (n := 0) (by decide) (by decide) ?_
        obtain ⟨e36, rfl⟩ := hp35
        refine lv_istore_n (lv' := [(2, .int (pd_m r33)), (3, .int (nI (eA i0))), (0, .ref y), (1, .int (nI i0))]) hx hb d_p15m15_52 rfl hl (by decide) rfl (fun ls hl => ?_)
        refine lv_iload_n hx hb d_p15m15_53 rfl (lv_at hl 0 rfl) ?_
        refine pd_mge (tgt := 30) hx hb d_p15m15_54 (by decide) (fun x hx => by have z := gm_type_le (e36.symm.trans hx) (by omega); omega) (fun q37 => ?_) (fun j38 q37 => ?_)
        · -- none: 57
          rw [q37] at e36
          rw [q37] at hl
          have hl : lv_has ls 4 [(2, .int (-1)), (3, .int (nI (eA i0))), (0, .ref y), (1, .int (nI i0))] := hl
          have hsl : gm_sl cs (eA i0) (eA i0 - sA i0) (sA i0 + 1) = none := by rw [← hv, gm_sl_n (by omega) e36.symm (by omega)]
          refine lv_iconst (v := nI 0) hx hb d_p15m15_57 (by decide) ?_
          refine W.eq (g2 := F0 m 58 ls [.int (pd_b false)]) rfl ?_
          exact pd_zret (v := false) X w ⟨by unfold gm_shape; rw [if_neg (by omega)]; simp only [hsl], rfl⟩ (by decide) (by decide) d_p15m15_58
        · -- some: 30
          rw [q37] at e36
          rw [q37] at hl
          have hl : lv_has ls 4 [(2, .int (nI j38)), (3, .int (nI (eA i0))), (0, .ref y), (1, .int (nI i0))] := hl
          have j38lt := gm_type_le e36.symm (by omega)
          exact ih j38 (fe - 1) (h40) (by omega) (by rw [← hv, gm_sl_y (by omega) e36.symm (by omega)]) (by omega) _ _ w ls (lv_sub hl [0, 1, 2, 3] rfl)
set_option maxHeartbeats 4000000 in
set_option maxRecDepth 100000 in
theorem c_Mod_isShape (l : Launch) (G : pd_G) (h : pd_H) {y : Nat} {ad : Nat → Nat} {fv : Nat → Nat → Int32} {iv : Nat → Int32} {tl : Int64} {cs : List Nat} {nw i0 : Nat} {sA eA : Nat → Nat} (hMO : pd_MO G h y ad fv iv tl) (hL : gm_L fv iv cs) (hW : gm_W fv cs nw sA eA) (hiw : i0 < nw) : pd_M l y_Mod_isShape prog_15_method_15_code 4 (some .boolean) rm_Mod_isShape G h [.ref y, .int (nI i0)] pd_vb (fun r h1 => r = gm_shape cs (sA i0) (eA i0) ∧ h = h1) := by
  refine pd_M.of (by decide) (Nat.le_of_ble_eq_true rfl) ?_
  intro p e s m below meth c X hmn w ls hl
  have hx := X.1
  have hb := X.2.1
  have hl : lv_has ls 4 [(0, .ref y), (1, .int (nI i0))] := hl
  have hz_y := hMO.2.1
  have hy0 : h y = some (20, .inr (10, [.ref (ad 0), .ref (ad 1), .ref (ad 2), .int (iv 3), .int (iv 4), .int (iv 5), .ref (ad 6), .ref (ad 7), .ref (ad 8), .ref (ad 9), .ref (ad 10), .ref (ad 11), .int (iv 12), .ref (ad 13), .ref (ad 14), .ref (ad 15), .ref (ad 16), .ref (ad 17), .ref (ad 18), .ref (ad 19), .int (iv 20), .ref (ad 21), .ref (ad 22), .ref (ad 23), .ref (ad 24), .ref (ad 25), .ref (ad 26), .ref (ad 27), .ref (ad 28), .int (iv 29), .ref (ad 30), .ref (ad 31), .int (iv 32), .int (iv 33), .int (iv 34), .int (iv 35), .long tl, .int (iv 37), .int (iv 38), .int (iv 39), .int (iv 40), .ref (ad 41), .ref (ad 42), .int (iv 43)])) := hMO.1
  have ha0 : h (ad 0) = some (30, .inl (.int, 60, .inl (fv 0))) := (hMO.2.2 0 (by decide)).1
  have ha1 : h (ad 1) = some (31, .inl (.int, 40, .inl (fv 1))) := (hMO.2.2 1 (by decide)).1
  have ha2 : h (ad 2) = some (32, .inl (.int, 40, .inl (fv 2))) := (hMO.2.2 2 (by decide)).1
  obtain ⟨hiv3, hln, hl60, hlc⟩ := id hL
  have hw31 := hW.1
  obtain ⟨hws, hwe, hwl, hwc⟩ := hW.2 i0 hiw
  refine lv_aload_n hx hb d_p15m15_0 rfl (lv_at hl 0 rfl) ?_
  refine pd_get X w hy0 rfl 1 (by decide) mT_1140 rfl rfl d_p15m15_1 ?_
  refine lv_iload_n hx hb d_p15m15_4 rfl (lv_at hl 1 rfl) ?_
  refine pd_iald X w ha1 (by omega) (by omega) d_p15m15_5 ?_
  refine pd_top (v' := .int (nI (sA i0))) (congrArg Value.int hws) ?_
  refine lv_istore_n (lv' := [(2, .int (nI (sA i0))), (0, .ref y), (1, .int (nI i0))]) hx hb d_p15m15_6 rfl hl (by decide) rfl (fun ls hl => ?_)
  refine lv_aload_n hx hb d_p15m15_7 rfl (lv_at hl 1 rfl) ?_
  refine pd_get X w hy0 rfl 2 (by decide) mT_1141 rfl rfl d_p15m15_8 ?_
  refine lv_iload_n hx hb d_p15m15_11 rfl (lv_at hl 2 rfl) ?_
  refine pd_iald X w ha2 (by omega) (by omega) d_p15m15_12 ?_
  refine pd_top (v' := .int (nI (eA i0))) (congrArg Value.int hwe) ?_
  refine lv_istore_n (lv' := [(3, .int (nI (eA i0))), (2, .int (nI (sA i0))), (0, .ref y), (1, .int (nI i0))]) hx hb d_p15m15_13 rfl hl (by decide) rfl (fun ls hl => ?_)
  refine lv_aload_n hx hb d_p15m15_14 rfl (lv_at hl 2 rfl) ?_
  refine pd_get X w hy0 rfl 0 (by decide) mT_1139 rfl rfl d_p15m15_15 ?_
  refine lv_iload_n hx hb d_p15m15_18 rfl (lv_at hl 1 rfl) ?_
  refine pd_iald X w ha0 (by omega) (by omega) d_p15m15_19 ?_
  refine pd_top (v' := .int (nI (cs.getD (sA i0) 0))) (congrArg Value.int (hln _ (by omega))) ?_
  have := tx_lt hlc (sA i0)
  refine lv_bipush (v := nI 40) hx hb d_p15m15_20 (by decide) ?_
  refine pd_jeq (tgt := 27) hx hb d_p15m15_22 (by decide) (by omega) (by omega) (fun q1 => ?_) (fun q1 => ?_)
  · -- taken: 27
    refine pd_iinc (k := 1) (d := 1) (lv' := [(2, .int (nI (sA i0 + 1))), (3, .int (nI (eA i0))), (0, .ref y), (1, .int (nI i0))]) hx hb d_p15m15_27 (by decide) hl rfl (by decide) rfl (fun ls hl => ?_)
    exact lp_Mod_isShape_30 l G h hMO hL hW hiw X hmn (eA i0 + 1) (sA i0 + 1) (eA i0 - sA i0) (by omega) (by omega) (rfl) (by omega) _ _ w ls (lv_sub hl [0, 1, 2, 3] rfl)
  · -- not taken: 25
    refine lv_iconst (v := nI 0) hx hb d_p15m15_25 (by decide) ?_
    refine W.eq (g2 := F0 m 26 ls [.int (pd_b false)]) rfl ?_
    exact pd_zret (v := false) X w ⟨by unfold gm_shape; rw [if_pos (by omega)], rfl⟩ (by decide) (by decide) d_p15m15_26
