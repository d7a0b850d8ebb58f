/-! the grammar, as functions of texts -/
def gr_pl (x : Nat) : Bool := decide ((97 ≤ x ∧ x ≤ 122) ∨ (65 ≤ x ∧ x ≤ 90) ∨ (48 ≤ x ∧ x ≤ 57) ∨ x = 95 ∨ x = 36)
def gr_part (cs : List Nat) : Bool := cs.all gr_pl && decide (¬ cs.length = 0)
theorem tx_mem {cs : List Nat} {i : Nat} (hi : i < cs.length) : cs.getD i 0 ∈ cs := by
  rw [List.getD_eq_getElem?_getD, List.getElem?_eq_getElem hi]
  exact List.getElem_mem hi
theorem tx_drop {cs : List Nat} {i : Nat} (hi : i < cs.length) : cs.drop i = cs.getD i 0 :: cs.drop (i + 1) := by
  rw [List.drop_eq_getElem_cons hi, List.getD_eq_getElem?_getD, List.getElem?_eq_getElem hi]
  rfl
theorem gr_part_f {cs : List Nat} {i : Nat} (hi : i < cs.length) (q : gr_pl (cs.getD i 0) = false) : gr_part cs = false := by
  unfold gr_part
  rw [Bool.and_eq_false_iff]
  refine Or.inl (List.all_eq_false.mpr ⟨_, tx_mem hi, ?_⟩)
  rw [q]
  decide
theorem gr_part_t {cs : List Nat} (q : ∀ j, j < cs.length → gr_pl (cs.getD j 0) = true) : gr_part cs = decide (¬ cs.length = 0) := by
  have h1 : cs.all gr_pl = true := by
    rw [List.all_eq_true]
    intro x hx
    obtain ⟨j, hj, rfl⟩ := List.mem_iff_getElem.mp hx
    have := q j hj
    rwa [List.getD_eq_getElem?_getD, List.getElem?_eq_getElem hj] at this
  unfold gr_part
  rw [h1, Bool.true_and]
/-- NAMES: p says whether the letter before is one of a PART -/
def gr_nm : List Nat → Bool → Bool
  | [], p => p
  | x :: t, p => if x = 47 then (if p then gr_nm t false else false) else (if gr_pl x then gr_nm t true else false)
def gr_name (cs : List Nat) : Bool := gr_nm cs false && decide (cs.length ≤ 24)
def gr_bd (cs : List Nat) : List Nat := match tx_ix cs 46 with | none => cs | some i => tx_sub cs 0 i
def gr_ad (cs : List Nat) : List Nat := match tx_ix cs 46 with | none => [] | some i => tx_sub cs (i + 1) cs.length
def gr_mem (cs : List Nat) : Bool := decide ((gr_ad cs).length ≤ 12) && (gr_part (gr_ad cs) && gr_name (gr_bd cs))
theorem d_p6m5_0 : decode prog_6_method_5_code 0 = .ok (.iload_n 0, 1) := by decide +kernel
theorem d_p6m5_1 : decode prog_6_method_5_code 1 = .ok (.bipush 97, 2) := by decide +kernel
theorem d_p6m5_3 : decode prog_6_method_5_code 3 = .ok (.if_icmp .lt 9, 3) := by decide +kernel
theorem d_p6m5_6 : decode prog_6_method_5_code 6 = .ok (.iload_n 0, 1) := by decide +kernel
theorem d_p6m5_7 : decode prog_6_method_5_code 7 = .ok (.bipush 122, 2) := by decide +kernel
theorem d_p6m5_9 : decode prog_6_method_5_code 9 = .ok (.if_icmp .le 39, 3) := by decide +kernel
theorem d_p6m5_12 : decode prog_6_method_5_code 12 = .ok (.iload_n 0, 1) := by decide +kernel
theorem d_p6m5_13 : decode prog_6_method_5_code 13 = .ok (.bipush 65, 2) := by decide +kernel
theorem d_p6m5_15 : decode prog_6_method_5_code 15 = .ok (.if_icmp .lt 9, 3) := by decide +kernel
theorem d_p6m5_18 : decode prog_6_method_5_code 18 = .ok (.iload_n 0, 1) := by decide +kernel
theorem d_p6m5_19 : decode prog_6_method_5_code 19 = .ok (.bipush 90, 2) := by decide +kernel
theorem d_p6m5_21 : decode prog_6_method_5_code 21 = .ok (.if_icmp .le 27, 3) := by decide +kernel
theorem d_p6m5_24 : decode prog_6_method_5_code 24 = .ok (.iload_n 0, 1) := by decide +kernel
theorem d_p6m5_25 : decode prog_6_method_5_code 25 = .ok (.bipush 48, 2) := by decide +kernel
theorem d_p6m5_27 : decode prog_6_method_5_code 27 = .ok (.if_icmp .lt 9, 3) := by decide +kernel
theorem d_p6m5_30 : decode prog_6_method_5_code 30 = .ok (.iload_n 0, 1) := by decide +kernel
theorem d_p6m5_31 : decode prog_6_method_5_code 31 = .ok (.bipush 57, 2) := by decide +kernel
theorem d_p6m5_33 : decode prog_6_method_5_code 33 = .ok (.if_icmp .le 15, 3) := by decide +kernel
theorem d_p6m5_36 : decode prog_6_method_5_code 36 = .ok (.iload_n 0, 1) := by decide +kernel
theorem d_p6m5_37 : decode prog_6_method_5_code 37 = .ok (.bipush 95, 2) := by decide +kernel
theorem d_p6m5_39 : decode prog_6_method_5_code 39 = .ok (.if_icmp .eq 9, 3) := by decide +kernel
theorem d_p6m5_42 : decode prog_6_method_5_code 42 = .ok (.iload_n 0, 1) := by decide +kernel
theorem d_p6m5_43 : decode prog_6_method_5_code 43 = .ok (.bipush 36, 2) := by decide +kernel
theorem d_p6m5_45 : decode prog_6_method_5_code 45 = .ok (.if_icmp .ne 7, 3) := by decide +kernel
theorem d_p6m5_48 : decode prog_6_method_5_code 48 = .ok (.iconst 1, 1) := by decide +kernel
theorem d_p6m5_49 : decode prog_6_method_5_code 49 = .ok (.goto 4, 3) := by decide +kernel
theorem d_p6m5_52 : decode prog_6_method_5_code 52 = .ok (.iconst 0, 1) := by decide +kernel
theorem d_p6m5_53 : decode prog_6_method_5_code 53 = .ok (.ireturn, 1) := by decide +kernel
abbrev y_Grammar_isPartLetter : MethodName := ⟨"PolicyDesk$Grammar", "isPartLetter", "(C)Z"⟩
theorem ok_Grammar_isPartLetter : pd_ok y_Grammar_isPartLetter prog_6_method_5_code 1 (some .boolean) 1 := ⟨mT_642, mT_25, by decide, by decide +kernel⟩
abbrev rm_Grammar_isPartLetter : Room := { frames := 0, cells := 0, slots := 0, locals := 0 }
set_option maxHeartbeats 4000000 in
set_option maxRecDepth 100000 in
theorem c_Grammar_isPartLetter (l : Launch) (G : pd_G) (h : pd_H) {ch : Nat} (hc : ch < 65536) : pd_M l y_Grammar_isPartLetter prog_6_method_5_code 1 (some .boolean) rm_Grammar_isPartLetter G h [.int (nI ch)] pd_vb (fun r h1 => r = gr_pl ch ∧ h = h1) := by
  refine pd_M.of (by decide) (Nat.le_of_ble_eq_true rfl) ?_
  intro p e s m below meth c X hmn w ls hl
  have hx := X.1
  have hb := X.2.1
  have hl : lv_has ls 1 [(0, .int (nI ch))] := hl
  refine lv_iload_n hx hb d_p6m5_0 rfl (lv_at hl 0 rfl) ?_
  refine lv_bipush (v := nI 97) hx hb d_p6m5_1 (by decide) ?_
  refine pd_jlt (tgt := 12) hx hb d_p6m5_3 (by decide) (by omega) (by omega) (fun q1 => ?_) (fun q1 => ?_)
  · -- taken: 12
    refine lv_iload_n hx hb d_p6m5_12 rfl (lv_at hl 0 rfl) ?_
    refine lv_bipush (v := nI 65) hx hb d_p6m5_13 (by decide) ?_
    refine pd_jlt (tgt := 24) hx hb d_p6m5_15 (by decide) (by omega) (by omega) (fun q2 => ?_) (fun q2 => ?_)
    · -- taken: 24
      refine lv_iload_n hx hb d_p6m5_24 rfl (lv_at hl 0 rfl) ?_
      refine lv_bipush (v := nI 48) hx hb d_p6m5_25 (by decide) ?_
      refine pd_jlt (tgt := 36) hx hb d_p6m5_27 (by decide) (by omega) (by omega) (fun q3 => ?_) (fun q3 => ?_)
      · -- taken: 36
        refine lv_iload_n hx hb d_p6m5_36 rfl (lv_at hl 0 rfl) ?_
        refine lv_bipush (v := nI 95) hx hb d_p6m5_37 (by decide) ?_
        refine pd_jeq (tgt := 48) hx hb d_p6m5_39 (by decide) (by omega) (by omega) (fun q4 => ?_) (fun q4 => ?_)
        · -- taken: 48
          refine lv_iconst (v := nI 1) hx hb d_p6m5_48 (by decide) ?_
          refine lv_goto (tgt := 53) hx hb d_p6m5_49 (by decide) ?_
          refine W.eq (g2 := F0 m 53 ls [.int (pd_b true)]) rfl ?_
          exact pd_zret (v := true) X w ⟨(by simp only [gr_pl]; first | exact (decide_eq_true (by omega)).symm | exact (decide_eq_false (by omega)).symm), rfl⟩ (by decide) (by decide) d_p6m5_53
        · -- not taken: 42
          refine lv_iload_n hx hb d_p6m5_42 rfl (lv_at hl 0 rfl) ?_
          refine lv_bipush (v := nI 36) hx hb d_p6m5_43 (by decide) ?_
          refine pd_jne (tgt := 52) hx hb d_p6m5_45 (by decide) (by omega) (by omega) (fun q5 => ?_) (fun q5 => ?_)
          · -- taken: 52
            refine lv_iconst (v := nI 0) hx hb d_p6m5_52 (by decide) ?_
            refine W.eq (g2 := F0 m 53 ls [.int (pd_b false)]) rfl ?_
            exact pd_zret (v := false) X w ⟨(by simp only [gr_pl]; first | exact (decide_eq_true (by omega)).symm | exact (decide_eq_false (by omega)).symm), rfl⟩ (by decide) (by decide) d_p6m5_53
          · -- not taken: 48
            refine lv_iconst (v := nI 1) hx hb d_p6m5_48 (by decide) ?_
            refine lv_goto (tgt := 53) hx hb d_p6m5_49 (by decide) ?_
            refine W.eq (g2 := F0 m 53 ls [.int (pd_b true)]) rfl ?_
            exact pd_zret (v := true) X w ⟨(by simp only [gr_pl]; first | exact (decide_eq_true (by omega)).symm | exact (decide_eq_false (by omega)).symm), rfl⟩ (by decide) (by decide) d_p6m5_53
      · -- not taken: 30
        refine lv_iload_n hx hb d_p6m5_30 rfl (lv_at hl 0 rfl) ?_
        refine lv_bipush (v := nI 57) hx hb d_p6m5_31 (by decide) ?_
        refine pd_jle (tgt := 48) hx hb d_p6m5_33 (by decide) (by omega) (by omega) (fun q6 => ?_) (fun q6 => ?_)
        · -- taken: 48
          refine lv_iconst (v := nI 1) hx hb d_p6m5_48 (by decide) ?_
          refine lv_goto (tgt := 53) hx hb d_p6m5_49 (by decide) ?_
          refine W.eq (g2 := F0 m 53 ls [.int (pd_b true)]) rfl ?_
          exact pd_zret (v := true) X w ⟨(by simp only [gr_pl]; first | exact (decide_eq_true (by omega)).symm | exact (decide_eq_false (by omega)).symm), rfl⟩ (by decide) (by decide) d_p6m5_53
        · -- not taken: 36
          refine lv_iload_n hx hb d_p6m5_36 rfl (lv_at hl 0 rfl) ?_
          refine lv_bipush (v := nI 95) hx hb d_p6m5_37 (by decide) ?_
          refine pd_jeq (tgt := 48) hx hb d_p6m5_39 (by decide) (by omega) (by omega) (fun q7 => ?_) (fun q7 => ?_)
          · -- taken: 48
            refine lv_iconst (v := nI 1) hx hb d_p6m5_48 (by decide) ?_
            refine lv_goto (tgt := 53) hx hb d_p6m5_49 (by decide) ?_
            refine W.eq (g2 := F0 m 53 ls [.int (pd_b true)]) rfl ?_
            exact pd_zret (v := true) X w ⟨(by simp only [gr_pl]; first | exact (decide_eq_true (by omega)).symm | exact (decide_eq_false (by omega)).symm), rfl⟩ (by decide) (by decide) d_p6m5_53
          · -- not taken: 42
            refine lv_iload_n hx hb d_p6m5_42 rfl (lv_at hl 0 rfl) ?_
            refine lv_bipush (v := nI 36) hx hb d_p6m5_43 (by decide) ?_
            refine pd_jne (tgt := 52) hx hb d_p6m5_45 (by decide) (by omega) (by omega) (fun q8 => ?_) (fun q8 => ?_)
            · -- taken: 52
              refine lv_iconst (v := nI 0) hx hb d_p6m5_52 (by decide) ?_
              refine W.eq (g2 := F0 m 53 ls [.int (pd_b false)]) rfl ?_
              exact pd_zret (v := false) X w ⟨(by simp only [gr_pl]; first | exact (decide_eq_true (by omega)).symm | exact (decide_eq_false (by omega)).symm), rfl⟩ (by decide) (by decide) d_p6m5_53
            · -- not taken: 48
              refine lv_iconst (v := nI 1) hx hb d_p6m5_48 (by decide) ?_
              refine lv_goto (tgt := 53) hx hb d_p6m5_49 (by decide) ?_
              refine W.eq (g2 := F0 m 53 ls [.int (pd_b true)]) rfl ?_
              exact pd_zret (v := true) X w ⟨(by simp only [gr_pl]; first | exact (decide_eq_true (by omega)).symm | exact (decide_eq_false (by omega)).symm), rfl⟩ (by decide) (by decide) d_p6m5_53
    · -- not taken: 18
      refine lv_iload_n hx hb d_p6m5_18 rfl (lv_at hl 0 rfl) ?_
      refine lv_bipush (v := nI 90) hx hb d_p6m5_19 (by decide) ?_
      refine pd_jle (tgt := 48) hx hb d_p6m5_21 (by decide) (by omega) (by omega) (fun q9 => ?_) (fun q9 => ?_)
      · -- taken: 48
        refine lv_iconst (v := nI 1) hx hb d_p6m5_48 (by decide) ?_
        refine lv_goto (tgt := 53) hx hb d_p6m5_49 (by decide) ?_
        refine W.eq (g2 := F0 m 53 ls [.int (pd_b true)]) rfl ?_
        exact pd_zret (v := true) X w ⟨(by simp only [gr_pl]; first | exact (decide_eq_true (by omega)).symm | exact (decide_eq_false (by omega)).symm), rfl⟩ (by decide) (by decide) d_p6m5_53
      · -- not taken: 24
        refine lv_iload_n hx hb d_p6m5_24 rfl (lv_at hl 0 rfl) ?_
        refine lv_bipush (v := nI 48) hx hb d_p6m5_25 (by decide) ?_
        refine pd_jlt (tgt := 36) hx hb d_p6m5_27 (by decide) (by omega) (by omega) (fun q10 => ?_) (fun q10 => ?_)
        · -- taken: 36
          refine lv_iload_n hx hb d_p6m5_36 rfl (lv_at hl 0 rfl) ?_
          refine lv_bipush (v := nI 95) hx hb d_p6m5_37 (by decide) ?_
          refine pd_jeq (tgt := 48) hx hb d_p6m5_39 (by decide) (by omega) (by omega) (fun q11 => ?_) (fun q11 => ?_)
          · -- taken: 48
            refine lv_iconst (v := nI 1) hx hb d_p6m5_48 (by decide) ?_
            refine lv_goto (tgt := 53) hx hb d_p6m5_49 (by decide) ?_
            refine W.eq (g2 := F0 m 53 ls [.int (pd_b true)]) rfl ?_
            exact pd_zret (v := true) X w ⟨(by simp only [gr_pl]; first | exact (decide_eq_true (by omega)).symm | exact (decide_eq_false (by omega)).symm), rfl⟩ (by decide) (by decide) d_p6m5_53
          · -- not taken: 42
            refine lv_iload_n hx hb d_p6m5_42 rfl (lv_at hl 0 rfl) ?_
            refine lv_bipush (v := nI 36) hx hb d_p6m5_43 (by decide) ?_
            refine pd_jne (tgt := 52) hx hb d_p6m5_45 (by decide) (by omega) (by omega) (fun q12 => ?_) (fun q12 => ?_)
            · -- taken: 52
              refine lv_iconst (v := nI 0) hx hb d_p6m5_52 (by decide) ?_
              refine W.eq (g2 := F0 m 53 ls [.int (pd_b false)]) rfl ?_
              exact pd_zret (v := false) X w ⟨(by simp only [gr_pl]; first | exact (decide_eq_true (by omega)).symm | exact (decide_eq_false (by omega)).symm), rfl⟩ (by decide) (by decide) d_p6m5_53
            · -- not taken: 48
              refine lv_iconst (v := nI 1) hx hb d_p6m5_48 (by decide) ?_
              refine lv_goto (tgt := 53) hx hb d_p6m5_49 (by decide) ?_
              refine W.eq (g2 := F0 m 53 ls [.int (pd_b true)]) rfl ?_
              exact pd_zret (v := true) X w ⟨(by simp only [gr_pl]; first | exact (decide_eq_true (by omega)).symm | exact (decide_eq_false (by omega)).symm), rfl⟩ (by decide) (by decide) d_p6m5_53
        · -- not taken: 30
          refine lv_iload_n hx hb d_p6m5_30 rfl (lv_at hl 0 rfl) ?_
          refine lv_bipush (v := nI 57) hx hb d_p6m5_31 (by decide) ?_
          refine pd_jle (tgt := 48) hx hb d_p6m5_33 (by decide) (by omega) (by omega) (fun q13 => ?_) (fun q13 => ?_)
          · -- taken: 48
            refine lv_iconst (v := nI 1) hx hb d_p6m5_48 (by decide) ?_
            refine lv_goto (tgt := 53) hx hb d_p6m5_49 (by decide) ?_
            refine W.eq (g2 := F0 m 53 ls [.int (pd_b true)]) rfl ?_
            exact pd_zret (v := true) X w ⟨(by simp only [gr_pl]; first | exact (decide_eq_true (by omega)).symm | exact (decide_eq_false (by omega)).symm), rfl⟩ (by decide) (by decide) d_p6m5_53
          · -- not taken: 36
            refine lv_iload_n hx hb d_p6m5_36 rfl (lv_at hl 0 rfl) ?_
            refine lv_bipush (v := nI 95) hx hb d_p6m5_37 (by decide) ?_
            refine pd_jeq (tgt := 48) hx hb d_p6m5_39 (by decide) (by omega) (by omega) (fun q14 => ?_) (fun q14 => ?_)
            · -- taken: 48
              refine lv_iconst (v := nI 1) hx hb d_p6m5_48 (by decide) ?_
              refine lv_goto (tgt := 53) hx hb d_p6m5_49 (by decide) ?_
              refine W.eq (g2 := F0 m 53 ls [.int (pd_b true)]) rfl ?_
              exact pd_zret (v := true) X w ⟨(by simp only [gr_pl]; first | exact (decide_eq_true (by omega)).symm | exact (decide_eq_false (by omega)).symm), rfl⟩ (by decide) (by decide) d_p6m5_53
            · -- not taken: 42
              refine lv_iload_n hx hb d_p6m5_42 rfl (lv_at hl 0 rfl) ?_
              refine lv_bipush (v := nI 36) hx hb d_p6m5_43 (by decide) ?_
              refine pd_jne (tgt := 52) hx hb d_p6m5_45 (by decide) (by omega) (by omega) (fun q15 => ?_) (fun q15 => ?_)
              · -- taken: 52
                refine lv_iconst (v := nI 0) hx hb d_p6m5_52 (by decide) ?_
                refine W.eq (g2 := F0 m 53 ls [.int (pd_b false)]) rfl ?_
                exact pd_zret (v := false) X w ⟨(by simp only [gr_pl]; first | exact (decide_eq_true (by omega)).symm | exact (decide_eq_false (by omega)).symm), rfl⟩ (by decide) (by decide) d_p6m5_53
              · -- not taken: 48
                refine lv_iconst (v := nI 1) hx hb d_p6m5_48 (by decide) ?_
                refine lv_goto (tgt := 53) hx hb d_p6m5_49 (by decide) ?_
                refine W.eq (g2 := F0 m 53 ls [.int (pd_b true)]) rfl ?_
                exact pd_zret (v := true) X w ⟨(by simp only [gr_pl]; first | exact (decide_eq_true (by omega)).symm | exact (decide_eq_false (by omega)).symm), rfl⟩ (by decide) (by decide) d_p6m5_53
  · -- not taken: 6
    refine lv_iload_n hx hb d_p6m5_6 rfl (lv_at hl 0 rfl) ?_
    refine lv_bipush (v := nI 122) hx hb d_p6m5_7 (by decide) ?_
    refine pd_jle (tgt := 48) hx hb d_p6m5_9 (by decide) (by omega) (by omega) (fun q16 => ?_) (fun q16 => ?_)
    · -- taken: 48
      refine lv_iconst (v := nI 1) hx hb d_p6m5_48 (by decide) ?_
      refine lv_goto (tgt := 53) hx hb d_p6m5_49 (by decide) ?_
      refine W.eq (g2 := F0 m 53 ls [.int (pd_b true)]) rfl ?_
      exact pd_zret (v := true) X w ⟨(by simp only [gr_pl]; first | exact (decide_eq_true (by omega)).symm | exact (decide_eq_false (by omega)).symm), rfl⟩ (by decide) (by decide) d_p6m5_53
    · -- not taken: 12
      refine lv_iload_n hx hb d_p6m5_12 rfl (lv_at hl 0 rfl) ?_
      refine lv_bipush (v := nI 65) hx hb d_p6m5_13 (by decide) ?_
      refine pd_jlt (tgt := 24) hx hb d_p6m5_15 (by decide) (by omega) (by omega) (fun q17 => ?_) (fun q17 => ?_)
      · -- taken: 24
        refine lv_iload_n hx hb d_p6m5_24 rfl (lv_at hl 0 rfl) ?_
        refine lv_bipush (v := nI 48) hx hb d_p6m5_25 (by decide) ?_
        refine pd_jlt (tgt := 36) hx hb d_p6m5_27 (by decide) (by omega) (by omega) (fun q18 => ?_) (fun q18 => ?_)
        · -- taken: 36
          refine lv_iload_n hx hb d_p6m5_36 rfl (lv_at hl 0 rfl) ?_
          refine lv_bipush (v := nI 95) hx hb d_p6m5_37 (by decide) ?_
          refine pd_jeq (tgt := 48) hx hb d_p6m5_39 (by decide) (by omega) (by omega) (fun q19 => ?_) (fun q19 => ?_)
          · -- taken: 48
            refine lv_iconst (v := nI 1) hx hb d_p6m5_48 (by decide) ?_
            refine lv_goto (tgt := 53) hx hb d_p6m5_49 (by decide) ?_
            refine W.eq (g2 := F0 m 53 ls [.int (pd_b true)]) rfl ?_
            exact pd_zret (v := true) X w ⟨(by simp only [gr_pl]; first | exact (decide_eq_true (by omega)).symm | exact (decide_eq_false (by omega)).symm), rfl⟩ (by decide) (by decide) d_p6m5_53
          · -- not taken: 42
            refine lv_iload_n hx hb d_p6m5_42 rfl (lv_at hl 0 rfl) ?_
            refine lv_bipush (v := nI 36) hx hb d_p6m5_43 (by decide) ?_
            refine pd_jne (tgt := 52) hx hb d_p6m5_45 (by decide) (by omega) (by omega) (fun q20 => ?_) (fun q20 => ?_)
            · -- taken: 52
              refine lv_iconst (v := nI 0) hx hb d_p6m5_52 (by decide) ?_
              refine W.eq (g2 := F0 m 53 ls [.int (pd_b false)]) rfl ?_
              exact pd_zret (v := false) X w ⟨(by simp only [gr_pl]; first | exact (decide_eq_true (by omega)).symm | exact (decide_eq_false (by omega)).symm), rfl⟩ (by decide) (by decide) d_p6m5_53
            · -- not taken: 48
              refine lv_iconst (v := nI 1) hx hb d_p6m5_48 (by decide) ?_
              refine lv_goto (tgt := 53) hx hb d_p6m5_49 (by decide) ?_
              refine W.eq (g2 := F0 m 53 ls [.int (pd_b true)]) rfl ?_
              exact pd_zret (v := true) X w ⟨(by simp only [gr_pl]; first | exact (decide_eq_true (by omega)).symm | exact (decide_eq_false (by omega)).symm), rfl⟩ (by decide) (by decide) d_p6m5_53
        · -- not taken: 30
          refine lv_iload_n hx hb d_p6m5_30 rfl (lv_at hl 0 rfl) ?_
          refine lv_bipush (v := nI 57) hx hb d_p6m5_31 (by decide) ?_
          refine pd_jle (tgt := 48) hx hb d_p6m5_33 (by decide) (by omega) (by omega) (fun q21 => ?_) (fun q21 => ?_)
          · -- taken: 48
            refine lv_iconst (v := nI 1) hx hb d_p6m5_48 (by decide) ?_
            refine lv_goto (tgt := 53) hx hb d_p6m5_49 (by decide) ?_
            refine W.eq (g2 := F0 m 53 ls [.int (pd_b true)]) rfl ?_
            exact pd_zret (v := true) X w ⟨(by simp only [gr_pl]; first | exact (decide_eq_true (by omega)).symm | exact (decide_eq_false (by omega)).symm), rfl⟩ (by decide) (by decide) d_p6m5_53
          · -- not taken: 36
            refine lv_iload_n hx hb d_p6m5_36 rfl (lv_at hl 0 rfl) ?_
            refine lv_bipush (v := nI 95) hx hb d_p6m5_37 (by decide) ?_
            refine pd_jeq (tgt := 48) hx hb d_p6m5_39 (by decide) (by omega) (by omega) (fun q22 => ?_) (fun q22 => ?_)
            · -- taken: 48
              refine lv_iconst (v := nI 1) hx hb d_p6m5_48 (by decide) ?_
              refine lv_goto (tgt := 53) hx hb d_p6m5_49 (by decide) ?_
              refine W.eq (g2 := F0 m 53 ls [.int (pd_b true)]) rfl ?_
              exact pd_zret (v := true) X w ⟨(by simp only [gr_pl]; first | exact (decide_eq_true (by omega)).symm | exact (decide_eq_false (by omega)).symm), rfl⟩ (by decide) (by decide) d_p6m5_53
            · -- not taken: 42
              refine lv_iload_n hx hb d_p6m5_42 rfl (lv_at hl 0 rfl) ?_
              refine lv_bipush (v := nI 36) hx hb d_p6m5_43 (by decide) ?_
              refine pd_jne (tgt := 52) hx hb d_p6m5_45 (by decide) (by omega) (by omega) (fun q23 => ?_) (fun q23 => ?_)
              · -- taken: 52
                refine lv_iconst (v := nI 0) hx hb d_p6m5_52 (by decide) ?_
                refine W.eq (g2 := F0 m 53 ls [.int (pd_b false)]) rfl ?_
                exact pd_zret (v := false) X w ⟨(by simp only [gr_pl]; first | exact (decide_eq_true (by omega)).symm | exact (decide_eq_false (by omega)).symm), rfl⟩ (by decide) (by decide) d_p6m5_53
              · -- not taken: 48
                refine lv_iconst (v := nI 1) hx hb d_p6m5_48 (by decide) ?_
                refine lv_goto (tgt := 53) hx hb d_p6m5_49 (by decide) ?_
                refine W.eq (g2 := F0 m 53 ls [.int (pd_b true)]) rfl ?_
                exact pd_zret (v := true) X w ⟨(by simp only [gr_pl]; first | exact (decide_eq_true (by omega)).symm | exact (decide_eq_false (by omega)).symm), rfl⟩ (by decide) (by decide) d_p6m5_53
      · -- not taken: 18
        refine lv_iload_n hx hb d_p6m5_18 rfl (lv_at hl 0 rfl) ?_
        refine lv_bipush (v := nI 90) hx hb d_p6m5_19 (by decide) ?_
        refine pd_jle (tgt := 48) hx hb d_p6m5_21 (by decide) (by omega) (by omega) (fun q24 => ?_) (fun q24 => ?_)
        · -- taken: 48
          refine lv_iconst (v := nI 1) hx hb d_p6m5_48 (by decide) ?_
          refine lv_goto (tgt := 53) hx hb d_p6m5_49 (by decide) ?_
          refine W.eq (g2 := F0 m 53 ls [.int (pd_b true)]) rfl ?_
          exact pd_zret (v := true) X w ⟨(by simp only [gr_pl]; first | exact (decide_eq_true (by omega)).symm | exact (decide_eq_false (by omega)).symm), rfl⟩ (by decide) (by decide) d_p6m5_53
        · -- not taken: 24
          refine lv_iload_n hx hb d_p6m5_24 rfl (lv_at hl 0 rfl) ?_
          refine lv_bipush (v := nI 48) hx hb d_p6m5_25 (by decide) ?_
          refine pd_jlt (tgt := 36) hx hb d_p6m5_27 (by decide) (by omega) (by omega) (fun q25 => ?_) (fun q25 => ?_)
          · -- taken: 36
            refine lv_iload_n hx hb d_p6m5_36 rfl (lv_at hl 0 rfl) ?_
            refine lv_bipush (v := nI 95) hx hb d_p6m5_37 (by decide) ?_
            refine pd_jeq (tgt := 48) hx hb d_p6m5_39 (by decide) (by omega) (by omega) (fun q26 => ?_) (fun q26 => ?_)
            · -- taken: 48
              refine lv_iconst (v := nI 1) hx hb d_p6m5_48 (by decide) ?_
              refine lv_goto (tgt := 53) hx hb d_p6m5_49 (by decide) ?_
              refine W.eq (g2 := F0 m 53 ls [.int (pd_b true)]) rfl ?_
              exact pd_zret (v := true) X w ⟨(by simp only [gr_pl]; first | exact (decide_eq_true (by omega)).symm | exact (decide_eq_false (by omega)).symm), rfl⟩ (by decide) (by decide) d_p6m5_53
            · -- not taken: 42
              refine lv_iload_n hx hb d_p6m5_42 rfl (lv_at hl 0 rfl) ?_
              refine lv_bipush (v := nI 36) hx hb d_p6m5_43 (by decide) ?_
              refine pd_jne (tgt := 52) hx hb d_p6m5_45 (by decide) (by omega) (by omega) (fun q27 => ?_) (fun q27 => ?_)
              · -- taken: 52
                refine lv_iconst (v := nI 0) hx hb d_p6m5_52 (by decide) ?_
                refine W.eq (g2 := F0 m 53 ls [.int (pd_b false)]) rfl ?_
                exact pd_zret (v := false) X w ⟨(by simp only [gr_pl]; first | exact (decide_eq_true (by omega)).symm | exact (decide_eq_false (by omega)).symm), rfl⟩ (by decide) (by decide) d_p6m5_53
              · -- not taken: 48
                refine lv_iconst (v := nI 1) hx hb d_p6m5_48 (by decide) ?_
                refine lv_goto (tgt := 53) hx hb d_p6m5_49 (by decide) ?_
                refine W.eq (g2 := F0 m 53 ls [.int (pd_b true)]) rfl ?_
                exact pd_zret (v := true) X w ⟨(by simp only [gr_pl]; first | exact (decide_eq_true (by omega)).symm | exact (decide_eq_false (by omega)).symm), rfl⟩ (by decide) (by decide) d_p6m5_53
          · -- not taken: 30
            refine lv_iload_n hx hb d_p6m5_30 rfl (lv_at hl 0 rfl) ?_
            refine lv_bipush (v := nI 57) hx hb d_p6m5_31 (by decide) ?_
            refine pd_jle (tgt := 48) hx hb d_p6m5_33 (by decide) (by omega) (by omega) (fun q28 => ?_) (fun q28 => ?_)
            · -- taken: 48
              refine lv_iconst (v := nI 1) hx hb d_p6m5_48 (by decide) ?_
              refine lv_goto (tgt := 53) hx hb d_p6m5_49 (by decide) ?_
              refine W.eq (g2 := F0 m 53 ls [.int (pd_b true)]) rfl ?_
              exact pd_zret (v := true) X w ⟨(by simp only [gr_pl]; first | exact (decide_eq_true (by omega)).symm | exact (decide_eq_false (by omega)).symm), rfl⟩ (by decide) (by decide) d_p6m5_53
            · -- not taken: 36
              refine lv_iload_n hx hb d_p6m5_36 rfl (lv_at hl 0 rfl) ?_
              refine lv_bipush (v := nI 95) hx hb d_p6m5_37 (by decide) ?_
              refine pd_jeq (tgt := 48) hx hb d_p6m5_39 (by decide) (by omega) (by omega) (fun q29 => ?_) (fun q29 => ?_)
              · -- taken: 48
                refine lv_iconst (v := nI 1) hx hb d_p6m5_48 (by decide) ?_
                refine lv_goto (tgt := 53) hx hb d_p6m5_49 (by decide) ?_
                refine W.eq (g2 := F0 m 53 ls [.int (pd_b true)]) rfl ?_
                exact pd_zret (v := true) X w ⟨(by simp only [gr_pl]; first | exact (decide_eq_true (by omega)).symm | exact (decide_eq_false (by omega)).symm), rfl⟩ (by decide) (by decide) d_p6m5_53
              · -- not taken: 42
                refine lv_iload_n hx hb d_p6m5_42 rfl (lv_at hl 0 rfl) ?_
                refine lv_bipush (v := nI 36) hx hb d_p6m5_43 (by decide) ?_
                refine pd_jne (tgt := 52) hx hb d_p6m5_45 (by decide) (by omega) (by omega) (fun q30 => ?_) (fun q30 => ?_)
                · -- taken: 52
                  refine lv_iconst (v := nI 0) hx hb d_p6m5_52 (by decide) ?_
                  refine W.eq (g2 := F0 m 53 ls [.int (pd_b false)]) rfl ?_
                  exact pd_zret (v := false) X w ⟨(by simp only [gr_pl]; first | exact (decide_eq_true (by omega)).symm | exact (decide_eq_false (by omega)).symm), rfl⟩ (by decide) (by decide) d_p6m5_53
                · -- not taken: 48
                  refine lv_iconst (v := nI 1) hx hb d_p6m5_48 (by decide) ?_
                  refine lv_goto (tgt := 53) hx hb d_p6m5_49 (by decide) ?_
                  refine W.eq (g2 := F0 m 53 ls [.int (pd_b true)]) rfl ?_
                  exact pd_zret (v := true) X w ⟨(by simp only [gr_pl]; first | exact (decide_eq_true (by omega)).symm | exact (decide_eq_false (by omega)).symm), rfl⟩ (by decide) (by decide) d_p6m5_53
theorem d_p6m6_0 : decode prog_6_method_6_code 0 = .ok (.iconst 0, 1) := by decide +kernel
theorem d_p6m6_1 : decode prog_6_method_6_code 1 = .ok (.istore_n 1, 1) := by decide +kernel
theorem d_p6m6_2 : decode prog_6_method_6_code 2 = .ok (.iload_n 1, 1) := by decide +kernel
theorem d_p6m6_3 : decode prog_6_method_6_code 3 = .ok (.aload_n 0, 1) := by decide +kernel
theorem d_p6m6_4 : decode prog_6_method_6_code 4 = .ok (.invokevirtual 69, 3) := by decide +kernel
theorem d_p6m6_7 : decode prog_6_method_6_code 7 = .ok (.if_icmp .ge 22, 3) := by decide +kernel
theorem d_p6m6_10 : decode prog_6_method_6_code 10 = .ok (.aload_n 0, 1) := by decide +kernel
theorem d_p6m6_11 : decode prog_6_method_6_code 11 = .ok (.iload_n 1, 1) := by decide +kernel
theorem d_p6m6_12 : decode prog_6_method_6_code 12 = .ok (.invokevirtual 72, 3) := by decide +kernel
theorem d_p6m6_15 : decode prog_6_method_6_code 15 = .ok (.invokestatic 76, 3) := by decide +kernel
theorem d_p6m6_18 : decode prog_6_method_6_code 18 = .ok (.ifCond .ne 5, 3) := by decide +kernel
theorem d_p6m6_21 : decode prog_6_method_6_code 21 = .ok (.iconst 0, 1) := by decide +kernel
theorem d_p6m6_22 : decode prog_6_method_6_code 22 = .ok (.ireturn, 1) := by decide +kernel
theorem d_p6m6_23 : decode prog_6_method_6_code 23 = .ok (.iinc 1 1, 3) := by decide +kernel
theorem d_p6m6_26 : decode prog_6_method_6_code 26 = .ok (.goto (-24), 3) := by decide +kernel
theorem d_p6m6_29 : decode prog_6_method_6_code 29 = .ok (.aload_n 0, 1) := by decide +kernel
theorem d_p6m6_30 : decode prog_6_method_6_code 30 = .ok (.invokevirtual 80, 3) := by decide +kernel
theorem d_p6m6_33 : decode prog_6_method_6_code 33 = .ok (.ifCond .ne 7, 3) := by decide +kernel
theorem d_p6m6_36 : decode prog_6_method_6_code 36 = .ok (.iconst 1, 1) := by decide +kernel
theorem d_p6m6_37 : decode prog_6_method_6_code 37 = .ok (.goto 4, 3) := by decide +kernel
theorem d_p6m6_40 : decode prog_6_method_6_code 40 = .ok (.iconst 0, 1) := by decide +kernel
theorem d_p6m6_41 : decode prog_6_method_6_code 41 = .ok (.ireturn, 1) := by decide +kernel
abbrev y_Grammar_isPart : MethodName := ⟨"PolicyDesk$Grammar", "isPart", "(Ljava/lang/String;)Z"⟩
theorem ok_Grammar_isPart : pd_ok y_Grammar_isPart prog_6_method_6_code 2 (some .boolean) 1 := ⟨mT_708, mT_25, by decide, by decide +kernel⟩
abbrev rm_Grammar_isPart : Room := { frames := 4, cells := 0, slots := 0, locals := 85 }
set_option maxHeartbeats 4000000 in
set_option maxRecDepth 100000 in
theorem lp_Grammar_isPart_2 (l : Launch) (G : pd_G) (h : pd_H) {a : Nat} {cs : List Nat} (hS : pd_Str h a cs) {p : Program} {e : Env} {s : State} {m : MethodId} {below : List Frame} {meth : Method} {c : Code} (X : pd_B p s m [.ref a].toArray meth c G y_Grammar_isPart.cls prog_6_method_6_code 2 (some .boolean)) (hmn : meth.name = y_Grammar_isPart.name) :
    ∀ (kk9 : Nat) (i : Nat), (i ≤ cs.length) → (∀ j, j < i → gr_pl (cs.getD j 0) = true) → cs.length - i < kk9 → ∀ (H : Heap) (locs : List Loc), pd_w G s H locs h → ∀ ls : Array Slot, lv_has ls 2 [(1, .int (nI i)), (0, .ref a)] → W p l e rm_Grammar_isPart s m [.ref a].toArray below meth c H locs 0 0 (MQ below (pd_Q G pd_vb (fun r h1 => r = gr_part cs ∧ h = h1)) [.ref a].toArray s rm_Grammar_isPart.cells rm_Grammar_isPart.slots (fun q => G.2.1 ≤ q)) (F0 m 2 ls []) := by
  have hx := X.1
  have hb := X.2.1
  obtain ⟨v1, f1, hv1, hv2, hvf, hvc, hvl⟩ := id hS
  intro kk9
  induction kk9 with
  | zero => intros; omega
  | succ kk9 ih =>
    intro i hi hj hmu H locs w ls hl
    refine lv_iload_n hx hb d_p6m6_2 rfl (lv_at hl 0 rfl) ?_
    refine lv_aload_n hx hb d_p6m6_3 rfl (lv_at hl 1 rfl) ?_
    refine pd_cV (a := a) (As := []) (rest := [.int (nI i)]) X w hv1 rfl (c_String_length l G h (by assumption)) ok_String_length ⟨mT_93, mT_94⟩ mT_638 ⟨by decide, by decide⟩ rfl hl.1 rfl (Nat.le_of_ble_eq_true rfl) d_p6m6_4 ⟨by decide, by decide⟩ (fun r1 h2 H locs hp3 w => ?_)
    refine W.widen (k := 0) (n := 0) (by decide) (by decide) ?_
    obtain ⟨e4, rfl⟩ := hp3
    refine pd_jge (tgt := 29) hx hb d_p6m6_7 (by decide) (by omega) (by omega) (fun q5 => ?_) (fun q5 => ?_)
    · -- taken: 29
      refine lv_aload_n hx hb d_p6m6_29 rfl (lv_at hl 1 rfl) ?_
      refine pd_cV (a := a) (As := []) (rest := []) X w hv1 rfl (c_String_isEmpty l G h (by assumption)) ok_String_isEmpty ⟨mT_710, mT_711⟩ mT_709 ⟨by decide, by decide⟩ rfl hl.1 rfl (Nat.le_of_ble_eq_true rfl) d_p6m6_30 ⟨by decide, by decide⟩ (fun r6 h7 H locs hp8 w => ?_)
      refine W.widen (k := 0) (n := 0) (by decide) (by decide) ?_
      obtain ⟨e9, rfl⟩ := hp8
      refine pd_bne (tgt := 40) hx hb d_p6m6_33 (by decide) (fun q10 => ?_) (fun q10 => ?_)
      · -- taken: 40
        refine lv_iconst (v := nI 0) hx hb d_p6m6_40 (by decide) ?_
        refine W.eq (g2 := F0 m 41 ls [.int (pd_b false)]) rfl ?_
        exact pd_zret (v := false) X w ⟨by rw [gr_part_t (fun j hj2 => hj j (by omega))]; first | exact (decide_eq_true (by simp_all)).symm | exact (decide_eq_false (by simp_all)).symm, rfl⟩ (by decide) (by decide) d_p6m6_41
      · -- not taken: 36
        refine lv_iconst (v := nI 1) hx hb d_p6m6_36 (by decide) ?_
        refine lv_goto (tgt := 41) hx hb d_p6m6_37 (by decide) ?_
        refine W.eq (g2 := F0 m 41 ls [.int (pd_b true)]) rfl ?_
        exact pd_zret (v := true) X w ⟨by rw [gr_part_t (fun j hj2 => hj j (by omega))]; first | exact (decide_eq_true (by simp_all)).symm | exact (decide_eq_false (by simp_all)).symm, rfl⟩ (by decide) (by decide) d_p6m6_41
    · -- not taken: 10
      refine lv_aload_n hx hb d_p6m6_10 rfl (lv_at hl 1 rfl) ?_
      refine lv_iload_n hx hb d_p6m6_11 rfl (lv_at hl 0 rfl) ?_
      refine pd_cV (a := a) (As := [.int (nI i)]) (rest := []) X w hv1 rfl (c_String_charAt l G h (by assumption) (by omega)) ok_String_charAt ⟨mT_102, mT_103⟩ mT_639 ⟨by decide, by decide⟩ rfl hl.1 rfl (Nat.le_of_ble_eq_true rfl) d_p6m6_12 ⟨by decide, by decide⟩ (fun r11 h12 H locs hp13 w => ?_)
      refine W.widen (k := 0) (n := 0) (by decide) (by decide) ?_
      obtain ⟨e14, lt15, rfl⟩ := hp13
      refine pd_cS (As := [.int (nI r11)]) (rest := []) X w (c_Grammar_isPartLetter l G h (by omega)) ok_Grammar_isPartLetter mT_641 mT_640 ⟨by decide, by decide⟩ rfl hl.1 rfl (Nat.le_of_ble_eq_true rfl) d_p6m6_15 ⟨by decide, by decide⟩ (fun r16 h17 H locs hp18 w => ?_)
      refine W.widen (k := 0) (n := 0) (by decide) (by decide) ?_
      obtain ⟨e19, rfl⟩ := hp18
      refine pd_bne (tgt := 23) hx hb d_p6m6_18 (by decide) (fun q20 => ?_) (fun q20 => ?_)
      · -- taken: 23
        refine pd_iinc (k := 0) (d := 1) (lv' := [(1, .int (nI (i + 1))), (0, .ref a)]) hx hb d_p6m6_23 (by decide) hl rfl (by decide) rfl (fun ls hl => ?_)
        refine lv_goto (tgt := 2) hx hb d_p6m6_26 (by decide) ?_
        exact ih (i + 1) (by omega) (lt_s hj (by rw [← e14, ← e19]; exact q20)) (by omega) _ _ w ls (lv_sub hl [0, 1] rfl)
      · -- not taken: 21
        refine lv_iconst (v := nI 0) hx hb d_p6m6_21 (by decide) ?_
        refine W.eq (g2 := F0 m 22 ls [.int (pd_b false)]) rfl ?_
        exact pd_zret (v := false) X w ⟨(gr_part_f (i := i) (by omega) (by rw [← e14, ← e19]; exact q20)).symm, rfl⟩ (by decide) (by decide) d_p6m6_22
set_option maxHeartbeats 4000000 in
set_option maxRecDepth 100000 in
theorem c_Grammar_isPart (l : Launch) (G : pd_G) (h : pd_H) {a : Nat} {cs : List Nat} (hS : pd_Str h a cs) : pd_M l y_Grammar_isPart prog_6_method_6_code 2 (some .boolean) rm_Grammar_isPart G h [.ref a] pd_vb (fun r h1 => r = gr_part cs ∧ h = h1) := by
  refine pd_M.of (by decide) (Nat.le_of_ble_eq_true rfl) ?_
  intro p e s m below meth c X hmn w ls hl
  have hx := X.1
  have hb := X.2.1
  have hl : lv_has ls 2 [(0, .ref a)] := hl
  obtain ⟨v1, f1, hv1, hv2, hvf, hvc, hvl⟩ := id hS
  refine lv_iconst (v := nI 0) hx hb d_p6m6_0 (by decide) ?_
  refine lv_istore_n (lv' := [(1, .int (nI 0)), (0, .ref a)]) hx hb d_p6m6_1 rfl hl (by decide) rfl (fun ls hl => ?_)
  exact lp_Grammar_isPart_2 l G h hS X hmn (cs.length + 1) 0 (by omega) (by intro j hj; omega) (by omega) _ _ w ls (lv_sub hl [0, 1] rfl)
theorem gr_nm_end {cs : List Nat} {i : Nat} {b : Bool} (hn : gr_nm (cs.drop i) b = gr_nm cs false) (hi : cs.length ≤ i) : gr_nm cs false = b := by
  rw [← hn, List.drop_eq_nil_of_le hi]
  rfl
theorem gr_name_f {cs : List Nat} (q : gr_nm cs false = false) : gr_name cs = false := by
  unfold gr_name
  rw [q]
  rfl
theorem gr_name_l {cs : List Nat} (q : 24 < cs.length) : gr_name cs = false := by
  unfold gr_name
  rw [decide_eq_false (by omega), Bool.and_false]
theorem gr_name_t {cs : List Nat} (q : gr_nm cs false = true) (hl : cs.length ≤ 24) : gr_name cs = true := by
  unfold gr_name
  rw [q, decide_eq_true hl]
  rfl
theorem gr_nm_f1 {cs : List Nat} {i : Nat} {b : Bool} (hn : gr_nm (cs.drop i) b = gr_nm cs false) (hi : i < cs.length) (hx : cs.getD i 0 = 47) (hb : b = false) : gr_nm cs false = false := by
  rw [← hn, tx_drop hi, gr_nm, if_pos hx, hb]
  rfl
theorem gr_nm_f2 {cs : List Nat} {i : Nat} {b : Bool} (hn : gr_nm (cs.drop i) b = gr_nm cs false) (hi : i < cs.length) (hx : ¬ cs.getD i 0 = 47) (hp : gr_pl (cs.getD i 0) = false) : gr_nm cs false = false := by
  rw [← hn, tx_drop hi, gr_nm, if_neg hx, hp]
  rfl
theorem gr_nm_s1 {cs : List Nat} {i : Nat} {b : Bool} (hn : gr_nm (cs.drop i) b = gr_nm cs false) (hi : i < cs.length) (hx : cs.getD i 0 = 47) (hb : b = true) : gr_nm (cs.drop (i + 1)) false = gr_nm cs false := by
  rw [← hn, tx_drop hi, gr_nm, if_pos hx, hb]
  rfl
theorem gr_nm_s2 {cs : List Nat} {i : Nat} {b : Bool} (hn : gr_nm (cs.drop i) b = gr_nm cs false) (hi : i < cs.length) (hx : ¬ cs.getD i 0 = 47) (hp : gr_pl (cs.getD i 0) = true) : gr_nm (cs.drop (i + 1)) true = gr_nm cs false := by
  rw [← hn, tx_drop hi, gr_nm, if_neg hx, hp]
  rfl
theorem d_p6m7_0 : decode prog_6_method_7_code 0 = .ok (.iconst 0, 1) := by decide +kernel
theorem d_p6m7_1 : decode prog_6_method_7_code 1 = .ok (.istore_n 1, 1) := by decide +kernel
theorem d_p6m7_2 : decode prog_6_method_7_code 2 = .ok (.iconst 0, 1) := by decide +kernel
theorem d_p6m7_3 : decode prog_6_method_7_code 3 = .ok (.istore_n 2, 1) := by decide +kernel
theorem d_p6m7_4 : decode prog_6_method_7_code 4 = .ok (.iload_n 2, 1) := by decide +kernel
theorem d_p6m7_5 : decode prog_6_method_7_code 5 = .ok (.aload_n 0, 1) := by decide +kernel
theorem d_p6m7_6 : decode prog_6_method_7_code 6 = .ok (.invokevirtual 69, 3) := by decide +kernel
theorem d_p6m7_9 : decode prog_6_method_7_code 9 = .ok (.if_icmp .ge 59, 3) := by decide +kernel
theorem d_p6m7_12 : decode prog_6_method_7_code 12 = .ok (.aload_n 0, 1) := by decide +kernel
theorem d_p6m7_13 : decode prog_6_method_7_code 13 = .ok (.iload_n 2, 1) := by decide +kernel
theorem d_p6m7_14 : decode prog_6_method_7_code 14 = .ok (.invokevirtual 72, 3) := by decide +kernel
theorem d_p6m7_17 : decode prog_6_method_7_code 17 = .ok (.bipush 47, 2) := by decide +kernel
theorem d_p6m7_19 : decode prog_6_method_7_code 19 = .ok (.if_icmp .ne 7, 3) := by decide +kernel
theorem d_p6m7_22 : decode prog_6_method_7_code 22 = .ok (.iconst 1, 1) := by decide +kernel
theorem d_p6m7_23 : decode prog_6_method_7_code 23 = .ok (.goto 4, 3) := by decide +kernel
theorem d_p6m7_26 : decode prog_6_method_7_code 26 = .ok (.iconst 0, 1) := by decide +kernel
theorem d_p6m7_27 : decode prog_6_method_7_code 27 = .ok (.istore_n 3, 1) := by decide +kernel
theorem d_p6m7_28 : decode prog_6_method_7_code 28 = .ok (.iload_n 3, 1) := by decide +kernel
theorem d_p6m7_29 : decode prog_6_method_7_code 29 = .ok (.ifCond .eq 10, 3) := by decide +kernel
theorem d_p6m7_32 : decode prog_6_method_7_code 32 = .ok (.iload_n 1, 1) := by decide +kernel
theorem d_p6m7_33 : decode prog_6_method_7_code 33 = .ok (.ifCond .ne 19, 3) := by decide +kernel
theorem d_p6m7_36 : decode prog_6_method_7_code 36 = .ok (.goto 14, 3) := by decide +kernel
theorem d_p6m7_39 : decode prog_6_method_7_code 39 = .ok (.aload_n 0, 1) := by decide +kernel
theorem d_p6m7_40 : decode prog_6_method_7_code 40 = .ok (.iload_n 2, 1) := by decide +kernel
theorem d_p6m7_41 : decode prog_6_method_7_code 41 = .ok (.invokevirtual 72, 3) := by decide +kernel
theorem d_p6m7_44 : decode prog_6_method_7_code 44 = .ok (.invokestatic 76, 3) := by decide +kernel
theorem d_p6m7_47 : decode prog_6_method_7_code 47 = .ok (.ifCond .ne 5, 3) := by decide +kernel
theorem d_p6m7_50 : decode prog_6_method_7_code 50 = .ok (.iconst 0, 1) := by decide +kernel
theorem d_p6m7_51 : decode prog_6_method_7_code 51 = .ok (.ireturn, 1) := by decide +kernel
theorem d_p6m7_52 : decode prog_6_method_7_code 52 = .ok (.iload_n 3, 1) := by decide +kernel
theorem d_p6m7_53 : decode prog_6_method_7_code 53 = .ok (.ifCond .ne 7, 3) := by decide +kernel
theorem d_p6m7_56 : decode prog_6_method_7_code 56 = .ok (.iconst 1, 1) := by decide +kernel
theorem d_p6m7_57 : decode prog_6_method_7_code 57 = .ok (.goto 4, 3) := by decide +kernel
theorem d_p6m7_60 : decode prog_6_method_7_code 60 = .ok (.iconst 0, 1) := by decide +kernel
theorem d_p6m7_61 : decode prog_6_method_7_code 61 = .ok (.istore_n 1, 1) := by decide +kernel
theorem d_p6m7_62 : decode prog_6_method_7_code 62 = .ok (.iinc 2 1, 3) := by decide +kernel
theorem d_p6m7_65 : decode prog_6_method_7_code 65 = .ok (.goto (-61), 3) := by decide +kernel
theorem d_p6m7_68 : decode prog_6_method_7_code 68 = .ok (.iload_n 1, 1) := by decide +kernel
theorem d_p6m7_69 : decode prog_6_method_7_code 69 = .ok (.ifCond .eq 16, 3) := by decide +kernel
theorem d_p6m7_72 : decode prog_6_method_7_code 72 = .ok (.aload_n 0, 1) := by decide +kernel
theorem d_p6m7_73 : decode prog_6_method_7_code 73 = .ok (.invokevirtual 69, 3) := by decide +kernel
theorem d_p6m7_76 : decode prog_6_method_7_code 76 = .ok (.bipush 24, 2) := by decide +kernel
theorem d_p6m7_78 : decode prog_6_method_7_code 78 = .ok (.if_icmp .gt 7, 3) := by decide +kernel
theorem d_p6m7_81 : decode prog_6_method_7_code 81 = .ok (.iconst 1, 1) := by decide +kernel
theorem d_p6m7_82 : decode prog_6_method_7_code 82 = .ok (.goto 4, 3) := by decide +kernel
theorem d_p6m7_85 : decode prog_6_method_7_code 85 = .ok (.iconst 0, 1) := by decide +kernel
theorem d_p6m7_86 : decode prog_6_method_7_code 86 = .ok (.ireturn, 1) := by decide +kernel
abbrev y_Grammar_isName : MethodName := ⟨"PolicyDesk$Grammar", "isName", "(Ljava/lang/String;)Z"⟩
theorem ok_Grammar_isName : pd_ok y_Grammar_isName prog_6_method_7_code 4 (some .boolean) 1 := ⟨mT_637, mT_25, by decide, by decide +kernel⟩
abbrev rm_Grammar_isName : Room := { frames := 4, cells := 0, slots := 0, locals := 85 }
set_option maxHeartbeats 4000000 in
set_option maxRecDepth 100000 in
theorem lp_Grammar_isName_4 (l : Launch) (G : pd_G) (h : pd_H) {a : Nat} {cs : List Nat} (hS : pd_Str h a cs) {p : Program} {e : Env} {s : State} {m : MethodId} {below : List Frame} {meth : Method} {c : Code} (X : pd_B p s m [.ref a].toArray meth c G y_Grammar_isName.cls prog_6_method_7_code 4 (some .boolean)) (hmn : meth.name = y_Grammar_isName.name) :
    ∀ (kk9 : Nat) (i : Nat) (bp : Bool), (i ≤ cs.length) → (gr_nm (cs.drop i) bp = gr_nm cs false) → cs.length - i < kk9 → ∀ (H : Heap) (locs : List Loc), pd_w G s H locs h → ∀ ls : Array Slot, lv_has ls 4 [(2, .int (nI i)), (1, .int (pd_b bp)), (0, .ref a)] → W p l e rm_Grammar_isName s m [.ref a].toArray below meth c H locs 0 0 (MQ below (pd_Q G pd_vb (fun r h1 => r = gr_name cs ∧ h = h1)) [.ref a].toArray s rm_Grammar_isName.cells rm_Grammar_isName.slots (fun q => G.2.1 ≤ q)) (F0 m 4 ls []) := by
  have hx := X.1
  have hb := X.2.1
  obtain ⟨v1, f1, hv1, hv2, hvf, hvc, hvl⟩ := id hS
  intro kk9
  induction kk9 with
  | zero => intros; omega
  | succ kk9 ih =>
    intro i bp hi hn hmu H locs w ls hl
    refine lv_iload_n hx hb d_p6m7_4 rfl (lv_at hl 0 rfl) ?_
    refine lv_aload_n hx hb d_p6m7_5 rfl (lv_at hl 2 rfl) ?_
    refine pd_cV (a := a) (As := []) (rest := [.int (nI i)]) X w hv1 rfl (c_String_length l G h (by assumption)) ok_String_length ⟨mT_93, mT_94⟩ mT_638 ⟨by decide, by decide⟩ rfl hl.1 rfl (Nat.le_of_ble_eq_true rfl) d_p6m7_6 ⟨by decide, by decide⟩ (fun r1 h2 H locs hp3 w => ?_)
    refine W.widen (k := 0) (n := 0) (by decide) (by decide) ?_
    obtain ⟨e4, rfl⟩ := hp3
    refine pd_jge (tgt := 68) hx hb d_p6m7_9 (by decide) (by omega) (by omega) (fun q5 => ?_) (fun q5 => ?_)
    · -- taken: 68
      refine lv_iload_n hx hb d_p6m7_68 rfl (lv_at hl 1 rfl) ?_
      refine pd_beq (tgt := 85) hx hb d_p6m7_69 (by decide) (fun q6 => ?_) (fun q6 => ?_)
      · -- taken: 85
        refine lv_iconst (v := nI 0) hx hb d_p6m7_85 (by decide) ?_
        refine W.eq (g2 := F0 m 86 ls [.int (pd_b false)]) rfl ?_
        exact pd_zret (v := false) X w ⟨(by first | exact (gr_name_l (by omega)).symm | exact (gr_name_f ((gr_nm_end hn (by omega)).trans (by assumption))).symm), rfl⟩ (by decide) (by decide) d_p6m7_86
      · -- not taken: 72
        refine lv_aload_n hx hb d_p6m7_72 rfl (lv_at hl 2 rfl) ?_
        refine pd_cV (a := a) (As := []) (rest := []) X w hv1 rfl (c_String_length l G h (by assumption)) ok_String_length ⟨mT_93, mT_94⟩ mT_638 ⟨by decide, by decide⟩ rfl hl.1 rfl (Nat.le_of_ble_eq_true rfl) d_p6m7_73 ⟨by decide, by decide⟩ (fun r7 h8 H locs hp9 w => ?_)
        refine W.widen (k := 0) (n := 0) (by decide) (by decide) ?_
        obtain ⟨e10, rfl⟩ := hp9
        refine lv_bipush (v := nI 24) hx hb d_p6m7_76 (by decide) ?_
        refine pd_jgt (tgt := 85) hx hb d_p6m7_78 (by decide) (by omega) (by omega) (fun q11 => ?_) (fun q11 => ?_)
        · -- taken: 85
          refine lv_iconst (v := nI 0) hx hb d_p6m7_85 (by decide) ?_
          refine W.eq (g2 := F0 m 86 ls [.int (pd_b false)]) rfl ?_
          exact pd_zret (v := false) X w ⟨(by first | exact (gr_name_l (by omega)).symm | exact (gr_name_f ((gr_nm_end hn (by omega)).trans (by assumption))).symm), rfl⟩ (by decide) (by decide) d_p6m7_86
        · -- not taken: 81
          refine lv_iconst (v := nI 1) hx hb d_p6m7_81 (by decide) ?_
          refine lv_goto (tgt := 86) hx hb d_p6m7_82 (by decide) ?_
          refine W.eq (g2 := F0 m 86 ls [.int (pd_b true)]) rfl ?_
          exact pd_zret (v := true) X w ⟨(gr_name_t ((gr_nm_end hn (by omega)).trans (by assumption)) (by omega)).symm, rfl⟩ (by decide) (by decide) d_p6m7_86
    · -- not taken: 12
      refine lv_aload_n hx hb d_p6m7_12 rfl (lv_at hl 2 rfl) ?_
      refine lv_iload_n hx hb d_p6m7_13 rfl (lv_at hl 0 rfl) ?_
      refine pd_cV (a := a) (As := [.int (nI i)]) (rest := []) X w hv1 rfl (c_String_charAt l G h (by assumption) (by omega)) ok_String_charAt ⟨mT_102, mT_103⟩ mT_639 ⟨by decide, by decide⟩ rfl hl.1 rfl (Nat.le_of_ble_eq_true rfl) d_p6m7_14 ⟨by decide, by decide⟩ (fun r12 h13 H locs hp14 w => ?_)
      refine W.widen (k := 0) (n := 0) (by decide) (by decide) ?_
      obtain ⟨e15, lt16, rfl⟩ := hp14
      refine lv_bipush (v := nI 47) hx hb d_p6m7_17 (by decide) ?_
      refine pd_jne (tgt := 26) hx hb d_p6m7_19 (by decide) (by omega) (by omega) (fun q17 => ?_) (fun q17 => ?_)
      · -- taken: 26
        refine lv_iconst (v := nI 0) hx hb d_p6m7_26 (by decide) ?_
        refine lv_istore_n (lv' := [(3, .int (nI 0)), (2, .int (nI i)), (1, .int (pd_b bp)), (0, .ref a)]) hx hb d_p6m7_27 rfl hl (by decide) rfl (fun ls hl => ?_)
        refine lv_iload_n hx hb d_p6m7_28 rfl (lv_at hl 0 rfl) ?_
        refine pd_zeq (tgt := 39) hx hb d_p6m7_29 (by decide) (by decide) (fun _ => ?_) (fun q => absurd q (by decide))
        refine lv_aload_n hx hb d_p6m7_39 rfl (lv_at hl 3 rfl) ?_
        refine lv_iload_n hx hb d_p6m7_40 rfl (lv_at hl 1 rfl) ?_
        refine pd_cV (a := a) (As := [.int (nI i)]) (rest := []) X w hv1 rfl (c_String_charAt l G h (by assumption) (by omega)) ok_String_charAt ⟨mT_102, mT_103⟩ mT_639 ⟨by decide, by decide⟩ rfl hl.1 rfl (Nat.le_of_ble_eq_true rfl) d_p6m7_41 ⟨by decide, by decide⟩ (fun r19 h20 H locs hp21 w => ?_)
        refine W.widen (k := 0) (n := 0) (by decide) (by decide) ?_
        obtain ⟨e22, lt23, rfl⟩ := hp21
        refine pd_cS (As := [.int (nI r19)]) (rest := []) X w (c_Grammar_isPartLetter l G h (by omega)) ok_Grammar_isPartLetter mT_641 mT_640 ⟨by decide, by decide⟩ rfl hl.1 rfl (Nat.le_of_ble_eq_true rfl) d_p6m7_44 ⟨by decide, by decide⟩ (fun r24 h25 H locs hp26 w => ?_)
        refine W.widen (k := 0) (n := 0) (by decide) (by decide) ?_
        obtain ⟨e27, rfl⟩ := hp26
        refine pd_bne (tgt := 52) hx hb d_p6m7_47 (by decide) (fun q28 => ?_) (fun q28 => ?_)
        · -- taken: 52
          refine lv_iload_n hx hb d_p6m7_52 rfl (lv_at hl 0 rfl) ?_
          refine pd_zne (tgt := 60) hx hb d_p6m7_53 (by decide) (by decide) (fun q => absurd q (by decide)) (fun _ => ?_)
          refine lv_iconst (v := nI 1) hx hb d_p6m7_56 (by decide) ?_
          refine lv_goto (tgt := 61) hx hb d_p6m7_57 (by decide) ?_
          refine lv_istore_n (lv' := [(1, .int (nI 1)), (3, .int (nI 0)), (2, .int (nI i)), (0, .ref a)]) hx hb d_p6m7_61 rfl hl (by decide) rfl (fun ls hl => ?_)
          refine pd_iinc (k := 2) (d := 1) (lv' := [(2, .int (nI (i + 1))), (1, .int (nI 1)), (3, .int (nI 0)), (0, .ref a)]) hx hb d_p6m7_62 (by decide) hl rfl (by decide) rfl (fun ls hl => ?_)
          refine lv_goto (tgt := 4) hx hb d_p6m7_65 (by decide) ?_
          exact ih (i + 1) true (by omega) (by first | exact gr_nm_s1 hn (by omega) (by omega) (by assumption) | exact gr_nm_s2 hn (by omega) (by omega) (by rw [← e22, ← e27]; exact q28)) (by omega) _ _ w ls (lv_sub hl [0, 1, 3] rfl)
        · -- not taken: 50
          refine lv_iconst (v := nI 0) hx hb d_p6m7_50 (by decide) ?_
          refine W.eq (g2 := F0 m 51 ls [.int (pd_b false)]) rfl ?_
          exact pd_zret (v := false) X w ⟨(gr_name_f (by first | exact gr_nm_f1 hn (by omega) (by omega) (by assumption) | exact gr_nm_f2 hn (by omega) (by omega) (by rw [← e22, ← e27]; exact q28))).symm, rfl⟩ (by decide) (by decide) d_p6m7_51
      · -- not taken: 22
        refine lv_iconst (v := nI 1) hx hb d_p6m7_22 (by decide) ?_
        refine lv_goto (tgt := 27) hx hb d_p6m7_23 (by decide) ?_
        refine lv_istore_n (lv' := [(3, .int (nI 1)), (2, .int (nI i)), (1, .int (pd_b bp)), (0, .ref a)]) hx hb d_p6m7_27 rfl hl (by decide) rfl (fun ls hl => ?_)
        refine lv_iload_n hx hb d_p6m7_28 rfl (lv_at hl 0 rfl) ?_
        refine pd_zeq (tgt := 39) hx hb d_p6m7_29 (by decide) (by decide) (fun q => absurd q (by decide)) (fun _ => ?_)
        refine lv_iload_n hx hb d_p6m7_32 rfl (lv_at hl 2 rfl) ?_
        refine pd_bne (tgt := 52) hx hb d_p6m7_33 (by decide) (fun q31 => ?_) (fun q31 => ?_)
        · -- taken: 52
          refine lv_iload_n hx hb d_p6m7_52 rfl (lv_at hl 0 rfl) ?_
          refine pd_zne (tgt := 60) hx hb d_p6m7_53 (by decide) (by decide) (fun _ => ?_) (fun q => absurd q (by decide))
          refine lv_iconst (v := nI 0) hx hb d_p6m7_60 (by decide) ?_
          refine lv_istore_n (lv' := [(1, .int (nI 0)), (3, .int (nI 1)), (2, .int (nI i)), (0, .ref a)]) hx hb d_p6m7_61 rfl hl (by decide) rfl (fun ls hl => ?_)
          refine pd_iinc (k := 2) (d := 1) (lv' := [(2, .int (nI (i + 1))), (1, .int (nI 0)), (3, .int (nI 1)), (0, .ref a)]) hx hb d_p6m7_62 (by decide) hl rfl (by decide) rfl (fun ls hl => ?_)
          refine lv_goto (tgt := 4) hx hb d_p6m7_65 (by decide) ?_
          exact ih (i + 1) false (by omega) (by first | exact gr_nm_s1 hn (by omega) (by omega) (by assumption) | exact gr_nm_s2 hn (by omega) (by omega) (by rw [← e4, ← e15]; exact q31)) (by omega) _ _ w ls (lv_sub hl [0, 1, 3] rfl)
        · -- not taken: 36
          refine lv_goto (tgt := 50) hx hb d_p6m7_36 (by decide) ?_
          refine lv_iconst (v := nI 0) hx hb d_p6m7_50 (by decide) ?_
          refine W.eq (g2 := F0 m 51 ls [.int (pd_b false)]) rfl ?_
          exact pd_zret (v := false) X w ⟨(gr_name_f (by first | exact gr_nm_f1 hn (by omega) (by omega) (by assumption) | exact gr_nm_f2 hn (by omega) (by omega) (by rw [← e4, ← e15]; exact q31))).symm, rfl⟩ (by decide) (by decide) d_p6m7_51
set_option maxHeartbeats 4000000 in
set_option maxRecDepth 100000 in
theorem c_Grammar_isName (l : Launch) (G : pd_G) (h : pd_H) {a : Nat} {cs : List Nat} (hS : pd_Str h a cs) : pd_M l y_Grammar_isName prog_6_method_7_code 4 (some .boolean) rm_Grammar_isName G h [.ref a] pd_vb (fun r h1 => r = gr_name cs ∧ h = h1) := by
  refine pd_M.of (by decide) (Nat.le_of_ble_eq_true rfl) ?_
  intro p e s m below meth c X hmn w ls hl
  have hx := X.1
  have hb := X.2.1
  have hl : lv_has ls 4 [(0, .ref a)] := hl
  obtain ⟨v1, f1, hv1, hv2, hvf, hvc, hvl⟩ := id hS
  refine lv_iconst (v := nI 0) hx hb d_p6m7_0 (by decide) ?_
  refine lv_istore_n (lv' := [(1, .int (nI 0)), (0, .ref a)]) hx hb d_p6m7_1 rfl hl (by decide) rfl (fun ls hl => ?_)
  refine lv_iconst (v := nI 0) hx hb d_p6m7_2 (by decide) ?_
  refine lv_istore_n (lv' := [(2, .int (nI 0)), (1, .int (nI 0)), (0, .ref a)]) hx hb d_p6m7_3 rfl hl (by decide) rfl (fun ls hl => ?_)
  exact lp_Grammar_isName_4 l G h hS X hmn (cs.length + 1) 0 false (by omega) (rfl) (by omega) _ _ w ls (lv_sub hl [0, 1, 2] rfl)
theorem d_p6m8_0 : decode prog_6_method_8_code 0 = .ok (.aload_n 0, 1) := by decide +kernel
theorem d_p6m8_1 : decode prog_6_method_8_code 1 = .ok (.bipush 46, 2) := by decide +kernel
theorem d_p6m8_3 : decode prog_6_method_8_code 3 = .ok (.invokevirtual 84, 3) := by decide +kernel
theorem d_p6m8_6 : decode prog_6_method_8_code 6 = .ok (.istore_n 1, 1) := by decide +kernel
theorem d_p6m8_7 : decode prog_6_method_8_code 7 = .ok (.iload_n 1, 1) := by decide +kernel
theorem d_p6m8_8 : decode prog_6_method_8_code 8 = .ok (.ifCond .ge 7, 3) := by decide +kernel
theorem d_p6m8_11 : decode prog_6_method_8_code 11 = .ok (.aload_n 0, 1) := by decide +kernel
theorem d_p6m8_12 : decode prog_6_method_8_code 12 = .ok (.goto 9, 3) := by decide +kernel
theorem d_p6m8_15 : decode prog_6_method_8_code 15 = .ok (.aload_n 0, 1) := by decide +kernel
theorem d_p6m8_16 : decode prog_6_method_8_code 16 = .ok (.iconst 0, 1) := by decide +kernel
theorem d_p6m8_17 : decode prog_6_method_8_code 17 = .ok (.iload_n 1, 1) := by decide +kernel
theorem d_p6m8_18 : decode prog_6_method_8_code 18 = .ok (.invokevirtual 88, 3) := by decide +kernel
theorem d_p6m8_21 : decode prog_6_method_8_code 21 = .ok (.areturn, 1) := by decide +kernel
abbrev y_Grammar_beforeDot : MethodName := ⟨"PolicyDesk$Grammar", "beforeDot", "(Ljava/lang/String;)Ljava/lang/String;"⟩
theorem ok_Grammar_beforeDot : pd_ok y_Grammar_beforeDot prog_6_method_8_code 2 (some (.object "java/lang/String")) 1 := ⟨mT_715, mT_25, by decide, by decide +kernel⟩
abbrev rm_Grammar_beforeDot : Room := { frames := 5, cells := 2, slots := 64, locals := 132 }
set_option maxHeartbeats 4000000 in
set_option maxRecDepth 100000 in
theorem c_Grammar_beforeDot (l : Launch) (G : pd_G) (h : pd_H) {a : Nat} {cs : List Nat} (hS : pd_Str h a cs) : pd_M l y_Grammar_beforeDot prog_6_method_8_code 2 (some (.object "java/lang/String")) rm_Grammar_beforeDot G h [.ref a] Value.ref (fun r h1 => pd_kx [] h h1 ∧ ∃ ds, ds = gr_bd cs ∧ pd_Str h1 r ds) := by
  refine pd_M.of (by decide) (Nat.le_of_ble_eq_true rfl) ?_
  intro p e s m below meth c X hmn w ls hl
  have hx := X.1
  have hb := X.2.1
  have hl : lv_has ls 2 [(0, .ref a)] := hl
  obtain ⟨v1, f1, hv1, hv2, hvf, hvc, hvl⟩ := id hS
  have hil := tx_ix_le (x := 46) hvl
  refine lv_aload_n hx hb d_p6m8_0 rfl (lv_at hl 0 rfl) ?_
  refine lv_bipush (v := nI 46) hx hb d_p6m8_1 (by decide) ?_
  refine pd_cV (a := a) (As := [.int (nI 46)]) (rest := []) X w hv1 rfl (c_String_indexOf l G h (by assumption) (by omega)) ok_String_indexOf ⟨mT_652, mT_653⟩ mT_651 ⟨by decide, by decide⟩ rfl hl.1 rfl (Nat.le_of_ble_eq_true rfl) d_p6m8_3 ⟨by decide, by decide⟩ (fun r1 h2 H locs hp3 w => ?_)
  refine W.widen (k := 0) (n := 0) (by decide) (by decide) ?_
  obtain ⟨e4, rfl⟩ := hp3
  refine lv_istore_n (lv' := [(1, .int (pd_m r1)), (0, .ref a)]) hx hb d_p6m8_6 rfl hl (by decide) rfl (fun ls hl => ?_)
  refine lv_iload_n hx hb d_p6m8_7 rfl (lv_at hl 0 rfl) ?_
  refine pd_mge (tgt := 15) hx hb d_p6m8_8 (by decide) (fun x hx => by have z := tx_ix_lt (e4.symm.trans hx); (try simp at z); omega) (fun q5 => ?_) (fun j6 q5 => ?_)
  · -- none: 11
    rw [q5] at e4
    rw [q5] at hl
    have hl : lv_has ls 2 [(1, .int (-1)), (0, .ref a)] := hl
    refine lv_aload_n hx hb d_p6m8_11 rfl (lv_at hl 1 rfl) ?_
    refine lv_goto (tgt := 21) hx hb d_p6m8_12 (by decide) ?_
    exact pd_aret (v := a) X (Or.inl ⟨_, rfl⟩) w ⟨pd_kx.rf, _, (by unfold gr_bd; rw [← e4]), hS⟩ (by decide) (by decide) d_p6m8_21
  · -- some: 15
    rw [q5] at e4
    rw [q5] at hl
    have hl : lv_has ls 2 [(1, .int (nI j6)), (0, .ref a)] := hl
    have j6lt := tx_ix_lt e4.symm
    refine lv_aload_n hx hb d_p6m8_15 rfl (lv_at hl 1 rfl) ?_
    refine lv_iconst (v := nI 0) hx hb d_p6m8_16 (by decide) ?_
    refine lv_iload_n hx hb d_p6m8_17 rfl (lv_at hl 0 rfl) ?_
    refine pd_cV (a := a) (As := [.int (nI 0), .int (nI j6)]) (rest := []) X w hv1 rfl (c_String_substring2 l G h (by assumption) (by omega) (by omega)) ok_String_substring2 ⟨mT_579, mT_580⟩ mT_716 ⟨by decide, by decide⟩ rfl hl.1 rfl (Nat.le_of_ble_eq_true rfl) d_p6m8_18 ⟨by decide, by decide⟩ (fun r7 h8 H locs hp9 w => ?_)
    refine W.widen (k := 2) (n := 64) (by decide) (by decide) ?_
    obtain ⟨k10, ds11, e12, f13⟩ := hp9
    have f21 := k10 _ _ hv1 List.not_mem_nil
    have f22 := k10 _ _ hv2 List.not_mem_nil
    have f23 := hS.kx k10 List.not_mem_nil
    obtain ⟨v14, g15, f16, f17, gf18, gc19, gl20⟩ := id f13
    exact pd_aret (v := r7) X (Or.inl ⟨_, rfl⟩) w ⟨k10, _, (by unfold gr_bd; rw [← e4]; exact e12), f13⟩ (by decide) (by decide) d_p6m8_21
theorem d_p6m9_0 : decode prog_6_method_9_code 0 = .ok (.aload_n 0, 1) := by decide +kernel
theorem d_p6m9_1 : decode prog_6_method_9_code 1 = .ok (.bipush 46, 2) := by decide +kernel
theorem d_p6m9_3 : decode prog_6_method_9_code 3 = .ok (.invokevirtual 84, 3) := by decide +kernel
theorem d_p6m9_6 : decode prog_6_method_9_code 6 = .ok (.istore_n 1, 1) := by decide +kernel
theorem d_p6m9_7 : decode prog_6_method_9_code 7 = .ok (.iload_n 1, 1) := by decide +kernel
theorem d_p6m9_8 : decode prog_6_method_9_code 8 = .ok (.ifCond .ge 8, 3) := by decide +kernel
theorem d_p6m9_11 : decode prog_6_method_9_code 11 = .ok (.ldc 92, 2) := by decide +kernel
theorem d_p6m9_13 : decode prog_6_method_9_code 13 = .ok (.goto 10, 3) := by decide +kernel
theorem d_p6m9_16 : decode prog_6_method_9_code 16 = .ok (.aload_n 0, 1) := by decide +kernel
theorem d_p6m9_17 : decode prog_6_method_9_code 17 = .ok (.iload_n 1, 1) := by decide +kernel
theorem d_p6m9_18 : decode prog_6_method_9_code 18 = .ok (.iconst 1, 1) := by decide +kernel
theorem d_p6m9_19 : decode prog_6_method_9_code 19 = .ok (.iadd, 1) := by decide +kernel
theorem d_p6m9_20 : decode prog_6_method_9_code 20 = .ok (.invokevirtual 94, 3) := by decide +kernel
theorem d_p6m9_23 : decode prog_6_method_9_code 23 = .ok (.areturn, 1) := by decide +kernel
abbrev y_Grammar_afterDot : MethodName := ⟨"PolicyDesk$Grammar", "afterDot", "(Ljava/lang/String;)Ljava/lang/String;"⟩
theorem ok_Grammar_afterDot : pd_ok y_Grammar_afterDot prog_6_method_9_code 2 (some (.object "java/lang/String")) 1 := ⟨mT_650, mT_25, by decide, by decide +kernel⟩
abbrev rm_Grammar_afterDot : Room := { frames := 6, cells := 2, slots := 64, locals := 153 }
set_option maxHeartbeats 4000000 in
set_option maxRecDepth 100000 in
theorem c_Grammar_afterDot (l : Launch) (G : pd_G) (h : pd_H) {a : Nat} {cs : List Nat} (hS : pd_Str h a cs) : pd_M l y_Grammar_afterDot prog_6_method_9_code 2 (some (.object "java/lang/String")) rm_Grammar_afterDot G h [.ref a] Value.ref (fun r h1 => pd_kx [] h h1 ∧ ∃ ds, ds = gr_ad cs ∧ pd_Str h1 r ds) := by
  refine pd_M.of (by decide) (Nat.le_of_ble_eq_true rfl) ?_
  intro p e s m below meth c X hmn w ls hl
  have hx := X.1
  have hb := X.2.1
  have hl : lv_has ls 2 [(0, .ref a)] := hl
  obtain ⟨v1, f1, hv1, hv2, hvf, hvc, hvl⟩ := id hS
  have hil := tx_ix_le (x := 46) hvl
  refine lv_aload_n hx hb d_p6m9_0 rfl (lv_at hl 0 rfl) ?_
  refine lv_bipush (v := nI 46) hx hb d_p6m9_1 (by decide) ?_
  refine pd_cV (a := a) (As := [.int (nI 46)]) (rest := []) X w hv1 rfl (c_String_indexOf l G h (by assumption) (by omega)) ok_String_indexOf ⟨mT_652, mT_653⟩ mT_651 ⟨by decide, by decide⟩ rfl hl.1 rfl (Nat.le_of_ble_eq_true rfl) d_p6m9_3 ⟨by decide, by decide⟩ (fun r1 h2 H locs hp3 w => ?_)
  refine W.widen (k := 0) (n := 0) (by decide) (by decide) ?_
  obtain ⟨e4, rfl⟩ := hp3
  refine lv_istore_n (lv' := [(1, .int (pd_m r1)), (0, .ref a)]) hx hb d_p6m9_6 rfl hl (by decide) rfl (fun ls hl => ?_)
  refine lv_iload_n hx hb d_p6m9_7 rfl (lv_at hl 0 rfl) ?_
  refine pd_mge (tgt := 16) hx hb d_p6m9_8 (by decide) (fun x hx => by have z := tx_ix_lt (e4.symm.trans hx); (try simp at z); omega) (fun q5 => ?_) (fun j6 q5 => ?_)
  · -- none: 11
    rw [q5] at e4
    rw [q5] at hl
    have hl : lv_has ls 2 [(1, .int (-1)), (0, .ref a)] := hl
    refine pd_ldc X (List.mem_of_getElem? (i := 6) rfl) d_p6m9_11 ?_
    have L7 : pd_Str h (G.2.2.2 46) [] := pd_litS X w 6 (by decide)
    obtain ⟨v8, g9, f10, f11, gf12, gc13, gl14⟩ := id L7
    refine lv_goto (tgt := 23) hx hb d_p6m9_13 (by decide) ?_
    exact pd_aret (v := (G.2.2.2 46)) X (Or.inl ⟨_, rfl⟩) w ⟨pd_kx.rf, _, (by unfold gr_ad; rw [← e4]), by assumption⟩ (by decide) (by decide) d_p6m9_23
  · -- some: 16
    rw [q5] at e4
    rw [q5] at hl
    have hl : lv_has ls 2 [(1, .int (nI j6)), (0, .ref a)] := hl
    have j6lt := tx_ix_lt e4.symm
    refine lv_aload_n hx hb d_p6m9_16 rfl (lv_at hl 1 rfl) ?_
    refine lv_iload_n hx hb d_p6m9_17 rfl (lv_at hl 0 rfl) ?_
    refine lv_iconst (v := nI 1) hx hb d_p6m9_18 (by decide) ?_
    refine pd_iadd hx hb d_p6m9_19 ?_
    refine pd_cV (a := a) (As := [.int (nI (j6 + 1))]) (rest := []) X w hv1 rfl (c_String_substring l G h (by assumption) (by omega)) ok_String_substring ⟨mT_702, mT_703⟩ mT_701 ⟨by decide, by decide⟩ rfl hl.1 rfl (Nat.le_of_ble_eq_true rfl) d_p6m9_20 ⟨by decide, by decide⟩ (fun r15 h16 H locs hp17 w => ?_)
    refine W.widen (k := 2) (n := 64) (by decide) (by decide) ?_
    obtain ⟨k18, ds19, e20, f21⟩ := hp17
    have f29 := k18 _ _ hv1 List.not_mem_nil
    have f30 := k18 _ _ hv2 List.not_mem_nil
    have f31 := hS.kx k18 List.not_mem_nil
    obtain ⟨v22, g23, f24, f25, gf26, gc27, gl28⟩ := id f21
    exact pd_aret (v := r15) X (Or.inl ⟨_, rfl⟩) w ⟨k18, _, (by unfold gr_ad; rw [← e4]; exact e20), f21⟩ (by decide) (by decide) d_p6m9_23
