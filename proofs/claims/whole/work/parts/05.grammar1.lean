/-! the letters of a PART -/
def gr_pl (c : Nat) : Bool := decide ((97 ≤ c ∧ c ≤ 122) ∨ (65 ≤ c ∧ c ≤ 90) ∨ (48 ≤ c ∧ c ≤ 57) ∨ c = 95 ∨ c = 36)
theorem d_p6m5_0 : decode prog_6_method_5_code 0 = .ok (.iload_n 0, 1) := by decide +kernel
theorem d_p6m5_1 : decode prog_6_method_5_code 1 = .ok (.bipush 97, 2) := by decide +kernel
theorem d_p6m5_3 : decode prog_6_method_5_code 3 = .ok (.if_icmp .lt 9, 3) := by decide +kernel
theorem d_p6m5_6 : decode prog_6_method_5_code 6 = .ok (.iload_n 0, 1) := by decide +kernel
theorem d_p6m5_7 : decode prog_6_method_5_code 7 = .ok (.bipush 122, 2) := by decide +kernel
theorem d_p6m5_9 : decode prog_6_method_5_code 9 = .ok (.if_icmp .le 39, 3) := by decide +kernel
theorem d_p6m5_12 : decode prog_6_method_5_code 12 = .ok (.iload_n 0, 1) := by decide +kernel
theorem d_p6m5_13 : decode prog_6_method_5_code 13 = .ok (.bipush 65, 2) := by decide +kernel
theorem d_p6m5_15 : decode prog_6_method_5_code 15 = .ok (.if_icmp .lt 9, 3) := by decide +kernel
theorem d_p6m5_18 : decode prog_6_method_5_code 18 = .ok (.iload_n 0, 1) := by decide +kernel
theorem d_p6m5_19 : decode prog_6_method_5_code 19 = .ok (.bipush 90, 2) := by decide +kernel
theorem d_p6m5_21 : decode prog_6_method_5_code 21 = .ok (.if_icmp .le 27, 3) := by decide +kernel
theorem d_p6m5_24 : decode prog_6_method_5_code 24 = .ok (.iload_n 0, 1) := by decide +kernel
theorem d_p6m5_25 : decode prog_6_method_5_code 25 = .ok (.bipush 48, 2) := by decide +kernel
theorem d_p6m5_27 : decode prog_6_method_5_code 27 = .ok (.if_icmp .lt 9, 3) := by decide +kernel
theorem d_p6m5_30 : decode prog_6_method_5_code 30 = .ok (.iload_n 0, 1) := by decide +kernel
theorem d_p6m5_31 : decode prog_6_method_5_code 31 = .ok (.bipush 57, 2) := by decide +kernel
theorem d_p6m5_33 : decode prog_6_method_5_code 33 = .ok (.if_icmp .le 15, 3) := by decide +kernel
theorem d_p6m5_36 : decode prog_6_method_5_code 36 = .ok (.iload_n 0, 1) := by decide +kernel
theorem d_p6m5_37 : decode prog_6_method_5_code 37 = .ok (.bipush 95, 2) := by decide +kernel
theorem d_p6m5_39 : decode prog_6_method_5_code 39 = .ok (.if_icmp .eq 9, 3) := by decide +kernel
theorem d_p6m5_42 : decode prog_6_method_5_code 42 = .ok (.iload_n 0, 1) := by decide +kernel
theorem d_p6m5_43 : decode prog_6_method_5_code 43 = .ok (.bipush 36, 2) := by decide +kernel
theorem d_p6m5_45 : decode prog_6_method_5_code 45 = .ok (.if_icmp .ne 7, 3) := by decide +kernel
theorem d_p6m5_48 : decode prog_6_method_5_code 48 = .ok (.iconst 1, 1) := by decide +kernel
theorem d_p6m5_49 : decode prog_6_method_5_code 49 = .ok (.goto 4, 3) := by decide +kernel
theorem d_p6m5_52 : decode prog_6_method_5_code 52 = .ok (.iconst 0, 1) := by decide +kernel
theorem d_p6m5_53 : decode prog_6_method_5_code 53 = .ok (.ireturn, 1) := by decide +kernel
abbrev y_Grammar_isPartLetter : MethodName := ⟨"PolicyDesk$Grammar", "isPartLetter", "(C)Z"⟩
theorem ok_Grammar_isPartLetter : pd_ok y_Grammar_isPartLetter prog_6_method_5_code 1 (some .boolean) 1 := ⟨mT_642, mT_25, by decide, by decide +kernel⟩
abbrev rm_Grammar_isPartLetter : Room := { frames := 0, cells := 0, slots := 0, locals := 0 }
set_option maxHeartbeats 4000000 in
set_option maxRecDepth 100000 in
theorem c_Grammar_isPartLetter (l : Launch) (G : pd_G) (h : pd_H) {ch : Nat} (hc : ch < 65536) : pd_M l y_Grammar_isPartLetter prog_6_method_5_code 1 (some .boolean) rm_Grammar_isPartLetter G h [.int (nI ch)] pd_vb (fun r h1 => r = gr_pl ch ∧ h = h1) := by
  refine pd_M.of (by decide) (Nat.le_of_ble_eq_true rfl) ?_
  intro p e s m below meth c X hmn w ls hl
  have hx := X.1
  have hb := X.2.1
  have hl : lv_has ls 1 [(0, .int (nI ch))] := hl
  refine lv_iload_n hx hb d_p6m5_0 rfl (lv_at hl 0 rfl) ?_
  refine lv_bipush (v := nI 97) hx hb d_p6m5_1 (by decide) ?_
  refine pd_jlt (tgt := 12) hx hb d_p6m5_3 (by decide) (by omega) (by omega) (fun q1 => ?_) (fun q1 => ?_)
  · -- taken: 12
    refine lv_iload_n hx hb d_p6m5_12 rfl (lv_at hl 0 rfl) ?_
    refine lv_bipush (v := nI 65) hx hb d_p6m5_13 (by decide) ?_
    refine pd_jlt (tgt := 24) hx hb d_p6m5_15 (by decide) (by omega) (by omega) (fun q2 => ?_) (fun q2 => ?_)
    · -- taken: 24
      refine lv_iload_n hx hb d_p6m5_24 rfl (lv_at hl 0 rfl) ?_
      refine lv_bipush (v := nI 48) hx hb d_p6m5_25 (by decide) ?_
      refine pd_jlt (tgt := 36) hx hb d_p6m5_27 (by decide) (by omega) (by omega) (fun q3 => ?_) (fun q3 => ?_)
      · -- taken: 36
        refine lv_iload_n hx hb d_p6m5_36 rfl (lv_at hl 0 rfl) ?_
        refine lv_bipush (v := nI 95) hx hb d_p6m5_37 (by decide) ?_
        refine pd_jeq (tgt := 48) hx hb d_p6m5_39 (by decide) (by omega) (by omega) (fun q4 => ?_) (fun q4 => ?_)
        · -- taken: 48
          refine lv_iconst (v := nI 1) hx hb d_p6m5_48 (by decide) ?_
          refine lv_goto (tgt := 53) hx hb d_p6m5_49 (by decide) ?_
          refine W.eq (g2 := F0 m 53 ls [.int (pd_b true)]) rfl ?_
          exact pd_zret (v := true) X w ⟨(by simp only [gr_pl]; first | exact (decide_eq_true (by omega)).symm | exact (decide_eq_false (by omega)).symm), rfl⟩ (by decide) (by decide) d_p6m5_53
        · -- not taken: 42
          refine lv_iload_n hx hb d_p6m5_42 rfl (lv_at hl 0 rfl) ?_
          refine lv_bipush (v := nI 36) hx hb d_p6m5_43 (by decide) ?_
          refine pd_jne (tgt := 52) hx hb d_p6m5_45 (by decide) (by omega) (by omega) (fun q5 => ?_) (fun q5 => ?_)
          · -- taken: 52
            refine lv_iconst (v := nI 0) hx hb d_p6m5_52 (by decide) ?_
            refine W.eq (g2 := F0 m 53 ls [.int (pd_b false)]) rfl ?_
            exact pd_zret (v := false) X w ⟨(by simp only [gr_pl]; first | exact (decide_eq_true (by omega)).symm | exact (decide_eq_false (by omega)).symm), rfl⟩ (by decide) (by decide) d_p6m5_53
          · -- not taken: 48
            refine lv_iconst (v := nI 1) hx hb d_p6m5_48 (by decide) ?_
            refine lv_goto (tgt := 53) hx hb d_p6m5_49 (by decide) ?_
            refine W.eq (g2 := F0 m 53 ls [.int (pd_b true)]) rfl ?_
            exact pd_zret (v := true) X w ⟨(by simp only [gr_pl]; first | exact (decide_eq_true (by omega)).symm | exact (decide_eq_false (by omega)).symm), rfl⟩ (by decide) (by decide) d_p6m5_53
      · -- not taken: 30
        refine lv_iload_n hx hb d_p6m5_30 rfl (lv_at hl 0 rfl) ?_
        refine lv_bipush (v := nI 57) hx hb d_p6m5_31 (by decide) ?_
        refine pd_jle (tgt := 48) hx hb d_p6m5_33 (by decide) (by omega) (by omega) (fun q6 => ?_) (fun q6 => ?_)
        · -- taken: 48
          refine lv_iconst (v := nI 1) hx hb d_p6m5_48 (by decide) ?_
          refine lv_goto (tgt := 53) hx hb d_p6m5_49 (by decide) ?_
          refine W.eq (g2 := F0 m 53 ls [.int (pd_b true)]) rfl ?_
          exact pd_zret (v := true) X w ⟨(by simp only [gr_pl]; first | exact (decide_eq_true (by omega)).symm | exact (decide_eq_false (by omega)).symm), rfl⟩ (by decide) (by decide) d_p6m5_53
        · -- not taken: 36
          refine lv_iload_n hx hb d_p6m5_36 rfl (lv_at hl 0 rfl) ?_
          refine lv_bipush (v := nI 95) hx hb d_p6m5_37 (by decide) ?_
          refine pd_jeq (tgt := 48) hx hb d_p6m5_39 (by decide) (by omega) (by omega) (fun q7 => ?_) (fun q7 => ?_)
          · -- taken: 48
            refine lv_iconst (v := nI 1) hx hb d_p6m5_48 (by decide) ?_
            refine lv_goto (tgt := 53) hx hb d_p6m5_49 (by decide) ?_
            refine W.eq (g2 := F0 m 53 ls [.int (pd_b true)]) rfl ?_
            exact pd_zret (v := true) X w ⟨(by simp only [gr_pl]; first | exact (decide_eq_true (by omega)).symm | exact (decide_eq_false (by omega)).symm), rfl⟩ (by decide) (by decide) d_p6m5_53
          · -- not taken: 42
            refine lv_iload_n hx hb d_p6m5_42 rfl (lv_at hl 0 rfl) ?_
            refine lv_bipush (v := nI 36) hx hb d_p6m5_43 (by decide) ?_
            refine pd_jne (tgt := 52) hx hb d_p6m5_45 (by decide) (by omega) (by omega) (fun q8 => ?_) (fun q8 => ?_)
            · -- taken: 52
              refine lv_iconst (v := nI 0) hx hb d_p6m5_52 (by decide) ?_
              refine W.eq (g2 := F0 m 53 ls [.int (pd_b false)]) rfl ?_
              exact pd_zret (v := false) X w ⟨(by simp only [gr_pl]; first | exact (decide_eq_true (by omega)).symm | exact (decide_eq_false (by omega)).symm), rfl⟩ (by decide) (by decide) d_p6m5_53
            · -- not taken: 48
              refine lv_iconst (v := nI 1) hx hb d_p6m5_48 (by decide) ?_
              refine lv_goto (tgt := 53) hx hb d_p6m5_49 (by decide) ?_
              refine W.eq (g2 := F0 m 53 ls [.int (pd_b true)]) rfl ?_
              exact pd_zret (v := true) X w ⟨(by simp only [gr_pl]; first | exact (decide_eq_true (by omega)).symm | exact (decide_eq_false (by omega)).symm), rfl⟩ (by decide) (by decide) d_p6m5_53
    · -- not taken: 18
      refine lv_iload_n hx hb d_p6m5_18 rfl (lv_at hl 0 rfl) ?_
      refine lv_bipush (v := nI 90) hx hb d_p6m5_19 (by decide) ?_
      refine pd_jle (tgt := 48) hx hb d_p6m5_21 (by decide) (by omega) (by omega) (fun q9 => ?_) (fun q9 => ?_)
      · -- taken: 48
        refine lv_iconst (v := nI 1) hx hb d_p6m5_48 (by decide) ?_
        refine lv_goto (tgt := 53) hx hb d_p6m5_49 (by decide) ?_
        refine W.eq (g2 := F0 m 53 ls [.int (pd_b true)]) rfl ?_
        exact pd_zret (v := true) X w ⟨(by simp only [gr_pl]; first | exact (decide_eq_true (by omega)).symm | exact (decide_eq_false (by omega)).symm), rfl⟩ (by decide) (by decide) d_p6m5_53
      · -- not taken: 24
        refine lv_iload_n hx hb d_p6m5_24 rfl (lv_at hl 0 rfl) ?_
        refine lv_bipush (v := nI 48) hx hb d_p6m5_25 (by decide) ?_
        refine pd_jlt (tgt := 36) hx hb d_p6m5_27 (by decide) (by omega) (by omega) (fun q10 => ?_) (fun q10 => ?_)
        · -- taken: 36
          refine lv_iload_n hx hb d_p6m5_36 rfl (lv_at hl 0 rfl) ?_
          refine lv_bipush (v := nI 95) hx hb d_p6m5_37 (by decide) ?_
          refine pd_jeq (tgt := 48) hx hb d_p6m5_39 (by decide) (by omega) (by omega) (fun q11 => ?_) (fun q11 => ?_)
          · -- taken: 48
            refine lv_iconst (v := nI 1) hx hb d_p6m5_48 (by decide) ?_
            refine lv_goto (tgt := 53) hx hb d_p6m5_49 (by decide) ?_
            refine W.eq (g2 := F0 m 53 ls [.int (pd_b true)]) rfl ?_
            exact pd_zret (v := true) X w ⟨(by simp only [gr_pl]; first | exact (decide_eq_true (by omega)).symm | exact (decide_eq_false (by omega)).symm), rfl⟩ (by decide) (by decide) d_p6m5_53
          · -- not taken: 42
            refine lv_iload_n hx hb d_p6m5_42 rfl (lv_at hl 0 rfl) ?_
            refine lv_bipush (v := nI 36) hx hb d_p6m5_43 (by decide) ?_
            refine pd_jne (tgt := 52) hx hb d_p6m5_45 (by decide) (by omega) (by omega) (fun q12 => ?_) (fun q12 => ?_)
            · -- taken: 52
              refine lv_iconst (v := nI 0) hx hb d_p6m5_52 (by decide) ?_
              refine W.eq (g2 := F0 m 53 ls [.int (pd_b false)]) rfl ?_
              exact pd_zret (v := false) X w ⟨(by simp only [gr_pl]; first | exact (decide_eq_true (by omega)).symm | exact (decide_eq_false (by omega)).symm), rfl⟩ (by decide) (by decide) d_p6m5_53
            · -- not taken: 48
              refine lv_iconst (v := nI 1) hx hb d_p6m5_48 (by decide) ?_
              refine lv_goto (tgt := 53) hx hb d_p6m5_49 (by decide) ?_
              refine W.eq (g2 := F0 m 53 ls [.int (pd_b true)]) rfl ?_
              exact pd_zret (v := true) X w ⟨(by simp only [gr_pl]; first | exact (decide_eq_true (by omega)).symm | exact (decide_eq_false (by omega)).symm), rfl⟩ (by decide) (by decide) d_p6m5_53
        · -- not taken: 30
          refine lv_iload_n hx hb d_p6m5_30 rfl (lv_at hl 0 rfl) ?_
          refine lv_bipush (v := nI 57) hx hb d_p6m5_31 (by decide) ?_
          refine pd_jle (tgt := 48) hx hb d_p6m5_33 (by decide) (by omega) (by omega) (fun q13 => ?_) (fun q13 => ?_)
          · -- taken: 48
            refine lv_iconst (v := nI 1) hx hb d_p6m5_48 (by decide) ?_
            refine lv_goto (tgt := 53) hx hb d_p6m5_49 (by decide) ?_
            refine W.eq (g2 := F0 m 53 ls [.int (pd_b true)]) rfl ?_
            exact pd_zret (v := true) X w ⟨(by simp only [gr_pl]; first | exact (decide_eq_true (by omega)).symm | exact (decide_eq_false (by omega)).symm), rfl⟩ (by decide) (by decide) d_p6m5_53
          · -- not taken: 36
            refine lv_iload_n hx hb d_p6m5_36 rfl (lv_at hl 0 rfl) ?_
            refine lv_bipush (v := nI 95) hx hb d_p6m5_37 (by decide) ?_
            refine pd_jeq (tgt := 48) hx hb d_p6m5_39 (by decide) (by omega) (by omega) (fun q14 => ?_) (fun q14 => ?_)
            · -- taken: 48
              refine lv_iconst (v := nI 1) hx hb d_p6m5_48 (by decide) ?_
              refine lv_goto (tgt := 53) hx hb d_p6m5_49 (by decide) ?_
              refine W.eq (g2 := F0 m 53 ls [.int (pd_b true)]) rfl ?_
              exact pd_zret (v := true) X w ⟨(by simp only [gr_pl]; first | exact (decide_eq_true (by omega)).symm | exact (decide_eq_false (by omega)).symm), rfl⟩ (by decide) (by decide) d_p6m5_53
            · -- not taken: 42
              refine lv_iload_n hx hb d_p6m5_42 rfl (lv_at hl 0 rfl) ?_
              refine lv_bipush (v := nI 36) hx hb d_p6m5_43 (by decide) ?_
              refine pd_jne (tgt := 52) hx hb d_p6m5_45 (by decide) (by omega) (by omega) (fun q15 => ?_) (fun q15 => ?_)
              · -- taken: 52
                refine lv_iconst (v := nI 0) hx hb d_p6m5_52 (by decide) ?_
                refine W.eq (g2 := F0 m 53 ls [.int (pd_b false)]) rfl ?_
                exact pd_zret (v := false) X w ⟨(by simp only [gr_pl]; first | exact (decide_eq_true (by omega)).symm | exact (decide_eq_false (by omega)).symm), rfl⟩ (by decide) (by decide) d_p6m5_53
              · -- not taken: 48
                refine lv_iconst (v := nI 1) hx hb d_p6m5_48 (by decide) ?_
                refine lv_goto (tgt := 53) hx hb d_p6m5_49 (by decide) ?_
                refine W.eq (g2 := F0 m 53 ls [.int (pd_b true)]) rfl ?_
                exact pd_zret (v := true) X w ⟨(by simp only [gr_pl]; first | exact (decide_eq_true (by omega)).symm | exact (decide_eq_false (by omega)).symm), rfl⟩ (by decide) (by decide) d_p6m5_53
  · -- not taken: 6
    refine lv_iload_n hx hb d_p6m5_6 rfl (lv_at hl 0 rfl) ?_
    refine lv_bipush (v := nI 122) hx hb d_p6m5_7 (by decide) ?_
    refine pd_jle (tgt := 48) hx hb d_p6m5_9 (by decide) (by omega) (by omega) (fun q16 => ?_) (fun q16 => ?_)
    · -- taken: 48
      refine lv_iconst (v := nI 1) hx hb d_p6m5_48 (by decide) ?_
      refine lv_goto (tgt := 53) hx hb d_p6m5_49 (by decide) ?_
      refine W.eq (g2 := F0 m 53 ls [.int (pd_b true)]) rfl ?_
      exact pd_zret (v := true) X w ⟨(by simp only [gr_pl]; first | exact (decide_eq_true (by omega)).symm | exact (decide_eq_false (by omega)).symm), rfl⟩ (by decide) (by decide) d_p6m5_53
    · -- not taken: 12
      refine lv_iload_n hx hb d_p6m5_12 rfl (lv_at hl 0 rfl) ?_
      refine lv_bipush (v := nI 65) hx hb d_p6m5_13 (by decide) ?_
      refine pd_jlt (tgt := 24) hx hb d_p6m5_15 (by decide) (by omega) (by omega) (fun q17 => ?_) (fun q17 => ?_)
      · -- taken: 24
        refine lv_iload_n hx hb d_p6m5_24 rfl (lv_at hl 0 rfl) ?_
        refine lv_bipush (v := nI 48) hx hb d_p6m5_25 (by decide) ?_
        refine pd_jlt (tgt := 36) hx hb d_p6m5_27 (by decide) (by omega) (by omega) (fun q18 => ?_) (fun q18 => ?_)
        · -- taken: 36
          refine lv_iload_n hx hb d_p6m5_36 rfl (lv_at hl 0 rfl) ?_
          refine lv_bipush (v := nI 95) hx hb d_p6m5_37 (by decide) ?_
          refine pd_jeq (tgt := 48) hx hb d_p6m5_39 (by decide) (by omega) (by omega) (fun q19 => ?_) (fun q19 => ?_)
          · -- taken: 48
            refine lv_iconst (v := nI 1) hx hb d_p6m5_48 (by decide) ?_
            refine lv_goto (tgt := 53) hx hb d_p6m5_49 (by decide) ?_
            refine W.eq (g2 := F0 m 53 ls [.int (pd_b true)]) rfl ?_
            exact pd_zret (v := true) X w ⟨(by simp only [gr_pl]; first | exact (decide_eq_true (by omega)).symm | exact (decide_eq_false (by omega)).symm), rfl⟩ (by decide) (by decide) d_p6m5_53
          · -- not taken: 42
            refine lv_iload_n hx hb d_p6m5_42 rfl (lv_at hl 0 rfl) ?_
            refine lv_bipush (v := nI 36) hx hb d_p6m5_43 (by decide) ?_
            refine pd_jne (tgt := 52) hx hb d_p6m5_45 (by decide) (by omega) (by omega) (fun q20 => ?_) (fun q20 => ?_)
            · -- taken: 52
              refine lv_iconst (v := nI 0) hx hb d_p6m5_52 (by decide) ?_
              refine W.eq (g2 := F0 m 53 ls [.int (pd_b false)]) rfl ?_
              exact pd_zret (v := false) X w ⟨(by simp only [gr_pl]; first | exact (decide_eq_true (by omega)).symm | exact (decide_eq_false (by omega)).symm), rfl⟩ (by decide) (by decide) d_p6m5_53
            · -- not taken: 48
              refine lv_iconst (v := nI 1) hx hb d_p6m5_48 (by decide) ?_
              refine lv_goto (tgt := 53) hx hb d_p6m5_49 (by decide) ?_
              refine W.eq (g2 := F0 m 53 ls [.int (pd_b true)]) rfl ?_
              exact pd_zret (v := true) X w ⟨(by simp only [gr_pl]; first | exact (decide_eq_true (by omega)).symm | exact (decide_eq_false (by omega)).symm), rfl⟩ (by decide) (by decide) d_p6m5_53
        · -- not taken: 30
          refine lv_iload_n hx hb d_p6m5_30 rfl (lv_at hl 0 rfl) ?_
          refine lv_bipush (v := nI 57) hx hb d_p6m5_31 (by decide) ?_
          refine pd_jle (tgt := 48) hx hb d_p6m5_33 (by decide) (by omega) (by omega) (fun q21 => ?_) (fun q21 => ?_)
          · -- taken: 48
            refine lv_iconst (v := nI 1) hx hb d_p6m5_48 (by decide) ?_
            refine lv_goto (tgt := 53) hx hb d_p6m5_49 (by decide) ?_
            refine W.eq (g2 := F0 m 53 ls [.int (pd_b true)]) rfl ?_
            exact pd_zret (v := true) X w ⟨(by simp only [gr_pl]; first | exact (decide_eq_true (by omega)).symm | exact (decide_eq_false (by omega)).symm), rfl⟩ (by decide) (by decide) d_p6m5_53
          · -- not taken: 36
            refine lv_iload_n hx hb d_p6m5_36 rfl (lv_at hl 0 rfl) ?_
            refine lv_bipush (v := nI 95) hx hb d_p6m5_37 (by decide) ?_
            refine pd_jeq (tgt := 48) hx hb d_p6m5_39 (by decide) (by omega) (by omega) (fun q22 => ?_) (fun q22 => ?_)
            · -- taken: 48
              refine lv_iconst (v := nI 1) hx hb d_p6m5_48 (by decide) ?_
              refine lv_goto (tgt := 53) hx hb d_p6m5_49 (by decide) ?_
              refine W.eq (g2 := F0 m 53 ls [.int (pd_b true)]) rfl ?_
              exact pd_zret (v := true) X w ⟨(by simp only [gr_pl]; first | exact (decide_eq_true (by omega)).symm | exact (decide_eq_false (by omega)).symm), rfl⟩ (by decide) (by decide) d_p6m5_53
            · -- not taken: 42
              refine lv_iload_n hx hb d_p6m5_42 rfl (lv_at hl 0 rfl) ?_
              refine lv_bipush (v := nI 36) hx hb d_p6m5_43 (by decide) ?_
              refine pd_jne (tgt := 52) hx hb d_p6m5_45 (by decide) (by omega) (by omega) (fun q23 => ?_) (fun q23 => ?_)
              · -- taken: 52
                refine lv_iconst (v := nI 0) hx hb d_p6m5_52 (by decide) ?_
                refine W.eq (g2 := F0 m 53 ls [.int (pd_b false)]) rfl ?_
                exact pd_zret (v := false) X w ⟨(by simp only [gr_pl]; first | exact (decide_eq_true (by omega)).symm | exact (decide_eq_false (by omega)).symm), rfl⟩ (by decide) (by decide) d_p6m5_53
              · -- not taken: 48
                refine lv_iconst (v := nI 1) hx hb d_p6m5_48 (by decide) ?_
                refine lv_goto (tgt := 53) hx hb d_p6m5_49 (by decide) ?_
                refine W.eq (g2 := F0 m 53 ls [.int (pd_b true)]) rfl ?_
                exact pd_zret (v := true) X w ⟨(by simp only [gr_pl]; first | exact (decide_eq_true (by omega)).symm | exact (decide_eq_false (by omega)).symm), rfl⟩ (by decide) (by decide) d_p6m5_53
      · -- not taken: 18
        refine lv_iload_n hx hb d_p6m5_18 rfl (lv_at hl 0 rfl) ?_
        refine lv_bipush (v := nI 90) hx hb d_p6m5_19 (by decide) ?_
        refine pd_jle (tgt := 48) hx hb d_p6m5_21 (by decide) (by omega) (by omega) (fun q24 => ?_) (fun q24 => ?_)
        · -- taken: 48
          refine lv_iconst (v := nI 1) hx hb d_p6m5_48 (by decide) ?_
          refine lv_goto (tgt := 53) hx hb d_p6m5_49 (by decide) ?_
          refine W.eq (g2 := F0 m 53 ls [.int (pd_b true)]) rfl ?_
          exact pd_zret (v := true) X w ⟨(by simp only [gr_pl]; first | exact (decide_eq_true (by omega)).symm | exact (decide_eq_false (by omega)).symm), rfl⟩ (by decide) (by decide) d_p6m5_53
        · -- not taken: 24
          refine lv_iload_n hx hb d_p6m5_24 rfl (lv_at hl 0 rfl) ?_
          refine lv_bipush (v := nI 48) hx hb d_p6m5_25 (by decide) ?_
          refine pd_jlt (tgt := 36) hx hb d_p6m5_27 (by decide) (by omega) (by omega) (fun q25 => ?_) (fun q25 => ?_)
          · -- taken: 36
            refine lv_iload_n hx hb d_p6m5_36 rfl (lv_at hl 0 rfl) ?_
            refine lv_bipush (v := nI 95) hx hb d_p6m5_37 (by decide) ?_
            refine pd_jeq (tgt := 48) hx hb d_p6m5_39 (by decide) (by omega) (by omega) (fun q26 => ?_) (fun q26 => ?_)
            · -- taken: 48
              refine lv_iconst (v := nI 1) hx hb d_p6m5_48 (by decide) ?_
              refine lv_goto (tgt := 53) hx hb d_p6m5_49 (by decide) ?_
              refine W.eq (g2 := F0 m 53 ls [.int (pd_b true)]) rfl ?_
              exact pd_zret (v := true) X w ⟨(by simp only [gr_pl]; first | exact (decide_eq_true (by omega)).symm | exact (decide_eq_false (by omega)).symm), rfl⟩ (by decide) (by decide) d_p6m5_53
            · -- not taken: 42
              refine lv_iload_n hx hb d_p6m5_42 rfl (lv_at hl 0 rfl) ?_
              refine lv_bipush (v := nI 36) hx hb d_p6m5_43 (by decide) ?_
              refine pd_jne (tgt := 52) hx hb d_p6m5_45 (by decide) (by omega) (by omega) (fun q27 => ?_) (fun q27 => ?_)
              · -- taken: 52
                refine lv_iconst (v := nI 0) hx hb d_p6m5_52 (by decide) ?_
                refine W.eq (g2 := F0 m 53 ls [.int (pd_b false)]) rfl ?_
                exact pd_zret (v := false) X w ⟨(by simp only [gr_pl]; first | exact (decide_eq_true (by omega)).symm | exact (decide_eq_false (by omega)).symm), rfl⟩ (by decide) (by decide) d_p6m5_53
              · -- not taken: 48
                refine lv_iconst (v := nI 1) hx hb d_p6m5_48 (by decide) ?_
                refine lv_goto (tgt := 53) hx hb d_p6m5_49 (by decide) ?_
                refine W.eq (g2 := F0 m 53 ls [.int (pd_b true)]) rfl ?_
                exact pd_zret (v := true) X w ⟨(by simp only [gr_pl]; first | exact (decide_eq_true (by omega)).symm | exact (decide_eq_false (by omega)).symm), rfl⟩ (by decide) (by decide) d_p6m5_53
          · -- not taken: 30
            refine lv_iload_n hx hb d_p6m5_30 rfl (lv_at hl 0 rfl) ?_
            refine lv_bipush (v := nI 57) hx hb d_p6m5_31 (by decide) ?_
            refine pd_jle (tgt := 48) hx hb d_p6m5_33 (by decide) (by omega) (by omega) (fun q28 => ?_) (fun q28 => ?_)
            · -- taken: 48
              refine lv_iconst (v := nI 1) hx hb d_p6m5_48 (by decide) ?_
              refine lv_goto (tgt := 53) hx hb d_p6m5_49 (by decide) ?_
              refine W.eq (g2 := F0 m 53 ls [.int (pd_b true)]) rfl ?_
              exact pd_zret (v := true) X w ⟨(by simp only [gr_pl]; first | exact (decide_eq_true (by omega)).symm | exact (decide_eq_false (by omega)).symm), rfl⟩ (by decide) (by decide) d_p6m5_53
            · -- not taken: 36
              refine lv_iload_n hx hb d_p6m5_36 rfl (lv_at hl 0 rfl) ?_
              refine lv_bipush (v := nI 95) hx hb d_p6m5_37 (by decide) ?_
              refine pd_jeq (tgt := 48) hx hb d_p6m5_39 (by decide) (by omega) (by omega) (fun q29 => ?_) (fun q29 => ?_)
              · -- taken: 48
                refine lv_iconst (v := nI 1) hx hb d_p6m5_48 (by decide) ?_
                refine lv_goto (tgt := 53) hx hb d_p6m5_49 (by decide) ?_
                refine W.eq (g2 := F0 m 53 ls [.int (pd_b true)]) rfl ?_
                exact pd_zret (v := true) X w ⟨(by simp only [gr_pl]; first | exact (decide_eq_true (by omega)).symm | exact (decide_eq_false (by omega)).symm), rfl⟩ (by decide) (by decide) d_p6m5_53
              · -- not taken: 42
                refine lv_iload_n hx hb d_p6m5_42 rfl (lv_at hl 0 rfl) ?_
                refine lv_bipush (v := nI 36) hx hb d_p6m5_43 (by decide) ?_
                refine pd_jne (tgt := 52) hx hb d_p6m5_45 (by decide) (by omega) (by omega) (fun q30 => ?_) (fun q30 => ?_)
                · -- taken: 52
                  refine lv_iconst (v := nI 0) hx hb d_p6m5_52 (by decide) ?_
                  refine W.eq (g2 := F0 m 53 ls [.int (pd_b false)]) rfl ?_
                  exact pd_zret (v := false) X w ⟨(by simp only [gr_pl]; first | exact (decide_eq_true (by omega)).symm | exact (decide_eq_false (by omega)).symm), rfl⟩ (by decide) (by decide) d_p6m5_53
                · -- not taken: 48
                  refine lv_iconst (v := nI 1) hx hb d_p6m5_48 (by decide) ?_
                  refine lv_goto (tgt := 53) hx hb d_p6m5_49 (by decide) ?_
                  refine W.eq (g2 := F0 m 53 ls [.int (pd_b true)]) rfl ?_
                  exact pd_zret (v := true) X w ⟨(by simp only [gr_pl]; first | exact (decide_eq_true (by omega)).symm | exact (decide_eq_false (by omega)).symm), rfl⟩ (by decide) (by decide) d_p6m5_53
