/-! what the reference answers -/
theorem pd_in_y {k : Nat} {c0 : Int32} (hk : k ≤ 1000) (h : decide (¬ c0 < nI 0 ∧ ¬ (nI k - nI 1) < c0) = true) : ∃ i, i < k ∧ c0 = nI i ∧ pd_ix k c0 = some i := by
  obtain ⟨h0, h1⟩ := of_decide_eq_true h
  have h0 : ¬ c0 < 0 := h0
  have h2 : c0 < nI k := by
    rw [Int32.lt_iff_toInt_lt, pk_sub_toInt (by omega) (by decide)] at h1
    rw [Int32.lt_iff_toInt_lt, nI_toInt (by omega)]
    omega
  exact ⟨c0.toNatClampNeg, pd_ix_lt h0 h2 (by omega), (pd_nn_i h0).symm, pd_ix_in h0 h2⟩
theorem pd_in_n {k : Nat} {c0 : Int32} (hk : k ≤ 1000) (h : decide (¬ c0 < nI 0 ∧ ¬ (nI k - nI 1) < c0) = false) : pd_ix k c0 = none := by
  have h := of_decide_eq_false h
  by_cases h0 : c0 < 0
  · exact pd_ix_neg h0
  · refine pd_ix_ge h0 (fun z => h ⟨h0, fun y => ?_⟩)
    rw [Int32.lt_iff_toInt_lt, pk_sub_toInt (by omega) (by decide)] at y
    rw [Int32.lt_iff_toInt_lt, nI_toInt (by omega)] at z
    omega
theorem gm_fl_len (r : pd_cr) : (gm_fl r).length = gr_on r.2.2.2.1 + gr_on r.2.2.2.2.1 := by
  unfold gm_fl
  rw [List.length_append]
  cases r.2.2.2.1 <;> cases r.2.2.2.2.1 <;> rfl
theorem gm_fl_0 {r : pd_cr} (h : r.2.2.2.1 = none → r.2.2.2.2.1 = none) : gr_no r.2.2.2.1 (-2) = if 0 < (gm_fl r).length then nI ((gm_fl r).getD 0 0) else -2 := by
  unfold gm_fl
  cases e : r.2.2.2.1 with
  | none => rw [h e]; rfl
  | some a => rfl
theorem gm_fl_1 {r : pd_cr} (h : r.2.2.2.1 = none → r.2.2.2.2.1 = none) : gr_no r.2.2.2.2.1 (-2) = if 1 < (gm_fl r).length then nI ((gm_fl r).getD 1 0) else -2 := by
  unfold gm_fl
  cases e : r.2.2.2.1 with
  | none => rw [h e]; rfl
  | some a => cases r.2.2.2.2.1 <;> rfl
theorem gr_no_m (o : Option Nat) : gr_no o (-1) = pd_m o := by cases o <;> rfl
def gm_A (fv : Nat → Nat → Int32) (T : Nat → List Nat) : Prop := ∀ j, j < 12 → fv 31 j = nI (T j).length ∧ (T j).length ≤ 96 ∧ ∀ i, i < (T j).length → fv 30 (96 * j + i) = nI ((T j).getD i 0)
theorem d_p15m35_0 : decode prog_15_method_35_code 0 = .ok (.aload_n 0, 1) := by decide +kernel
theorem d_p15m35_1 : decode prog_15_method_35_code 1 = .ok (.iload_n 1, 1) := by decide +kernel
theorem d_p15m35_2 : decode prog_15_method_35_code 2 = .ok (.iload_n 2, 1) := by decide +kernel
theorem d_p15m35_3 : decode prog_15_method_35_code 3 = .ok (.invokevirtual 259, 3) := by decide +kernel
theorem d_p15m35_6 : decode prog_15_method_35_code 6 = .ok (.ifCond .eq 16, 3) := by decide +kernel
theorem d_p15m35_9 : decode prog_15_method_35_code 9 = .ok (.iload_n 3, 1) := by decide +kernel
theorem d_p15m35_10 : decode prog_15_method_35_code 10 = .ok (.ifCond .ge 14, 3) := by decide +kernel
theorem d_p15m35_13 : decode prog_15_method_35_code 13 = .ok (.aload_n 0, 1) := by decide +kernel
theorem d_p15m35_14 : decode prog_15_method_35_code 14 = .ok (.getfield 75, 3) := by decide +kernel
theorem d_p15m35_17 : decode prog_15_method_35_code 17 = .ok (.iload_n 1, 1) := by decide +kernel
theorem d_p15m35_18 : decode prog_15_method_35_code 18 = .ok (.iaload, 1) := by decide +kernel
theorem d_p15m35_19 : decode prog_15_method_35_code 19 = .ok (.ifCond .le 5, 3) := by decide +kernel
theorem d_p15m35_22 : decode prog_15_method_35_code 22 = .ok (.iconst 0, 1) := by decide +kernel
theorem d_p15m35_23 : decode prog_15_method_35_code 23 = .ok (.ireturn, 1) := by decide +kernel
theorem d_p15m35_24 : decode prog_15_method_35_code 24 = .ok (.iload_n 3, 1) := by decide +kernel
theorem d_p15m35_25 : decode prog_15_method_35_code 25 = .ok (.ifCond .lt 13, 3) := by decide +kernel
theorem d_p15m35_28 : decode prog_15_method_35_code 28 = .ok (.aload_n 0, 1) := by decide +kernel
theorem d_p15m35_29 : decode prog_15_method_35_code 29 = .ok (.getfield 75, 3) := by decide +kernel
theorem d_p15m35_32 : decode prog_15_method_35_code 32 = .ok (.iload_n 1, 1) := by decide +kernel
theorem d_p15m35_33 : decode prog_15_method_35_code 33 = .ok (.iaload, 1) := by decide +kernel
theorem d_p15m35_34 : decode prog_15_method_35_code 34 = .ok (.iconst 2, 1) := by decide +kernel
theorem d_p15m35_35 : decode prog_15_method_35_code 35 = .ok (.if_icmp .ge 5, 3) := by decide +kernel
theorem d_p15m35_38 : decode prog_15_method_35_code 38 = .ok (.iconst 1, 1) := by decide +kernel
theorem d_p15m35_39 : decode prog_15_method_35_code 39 = .ok (.ireturn, 1) := by decide +kernel
theorem d_p15m35_40 : decode prog_15_method_35_code 40 = .ok (.aload_n 0, 1) := by decide +kernel
theorem d_p15m35_41 : decode prog_15_method_35_code 41 = .ok (.getfield 81, 3) := by decide +kernel
theorem d_p15m35_44 : decode prog_15_method_35_code 44 = .ok (.iload_n 1, 1) := by decide +kernel
theorem d_p15m35_45 : decode prog_15_method_35_code 45 = .ok (.iaload, 1) := by decide +kernel
theorem d_p15m35_46 : decode prog_15_method_35_code 46 = .ok (.aload_n 0, 1) := by decide +kernel
theorem d_p15m35_47 : decode prog_15_method_35_code 47 = .ok (.getfield 51, 3) := by decide +kernel
theorem d_p15m35_50 : decode prog_15_method_35_code 50 = .ok (.iload_n 3, 1) := by decide +kernel
theorem d_p15m35_51 : decode prog_15_method_35_code 51 = .ok (.iaload, 1) := by decide +kernel
theorem d_p15m35_52 : decode prog_15_method_35_code 52 = .ok (.if_icmp .ne 7, 3) := by decide +kernel
theorem d_p15m35_55 : decode prog_15_method_35_code 55 = .ok (.iconst 1, 1) := by decide +kernel
theorem d_p15m35_56 : decode prog_15_method_35_code 56 = .ok (.goto 4, 3) := by decide +kernel
theorem d_p15m35_59 : decode prog_15_method_35_code 59 = .ok (.iconst 0, 1) := by decide +kernel
theorem d_p15m35_60 : decode prog_15_method_35_code 60 = .ok (.istore 4, 2) := by decide +kernel
theorem d_p15m35_62 : decode prog_15_method_35_code 62 = .ok (.iconst 0, 1) := by decide +kernel
theorem d_p15m35_63 : decode prog_15_method_35_code 63 = .ok (.istore 5, 2) := by decide +kernel
theorem d_p15m35_65 : decode prog_15_method_35_code 65 = .ok (.iload 5, 2) := by decide +kernel
theorem d_p15m35_67 : decode prog_15_method_35_code 67 = .ok (.aload_n 0, 1) := by decide +kernel
theorem d_p15m35_68 : decode prog_15_method_35_code 68 = .ok (.getfield 81, 3) := by decide +kernel
theorem d_p15m35_71 : decode prog_15_method_35_code 71 = .ok (.iload_n 1, 1) := by decide +kernel
theorem d_p15m35_72 : decode prog_15_method_35_code 72 = .ok (.iaload, 1) := by decide +kernel
theorem d_p15m35_73 : decode prog_15_method_35_code 73 = .ok (.if_icmp .ge 48, 3) := by decide +kernel
theorem d_p15m35_76 : decode prog_15_method_35_code 76 = .ok (.iload 4, 2) := by decide +kernel
theorem d_p15m35_78 : decode prog_15_method_35_code 78 = .ok (.ifCond .eq 43, 3) := by decide +kernel
theorem d_p15m35_81 : decode prog_15_method_35_code 81 = .ok (.aload_n 0, 1) := by decide +kernel
theorem d_p15m35_82 : decode prog_15_method_35_code 82 = .ok (.getfield 78, 3) := by decide +kernel
theorem d_p15m35_85 : decode prog_15_method_35_code 85 = .ok (.bipush 60, 2) := by decide +kernel
theorem d_p15m35_87 : decode prog_15_method_35_code 87 = .ok (.iload_n 1, 1) := by decide +kernel
theorem d_p15m35_88 : decode prog_15_method_35_code 88 = .ok (.imul, 1) := by decide +kernel
theorem d_p15m35_89 : decode prog_15_method_35_code 89 = .ok (.iload 5, 2) := by decide +kernel
theorem d_p15m35_91 : decode prog_15_method_35_code 91 = .ok (.iadd, 1) := by decide +kernel
theorem d_p15m35_92 : decode prog_15_method_35_code 92 = .ok (.iaload, 1) := by decide +kernel
theorem d_p15m35_93 : decode prog_15_method_35_code 93 = .ok (.aload_n 0, 1) := by decide +kernel
theorem d_p15m35_94 : decode prog_15_method_35_code 94 = .ok (.getfield 48, 3) := by decide +kernel
theorem d_p15m35_97 : decode prog_15_method_35_code 97 = .ok (.bipush 12, 2) := by decide +kernel
theorem d_p15m35_99 : decode prog_15_method_35_code 99 = .ok (.iload_n 3, 1) := by decide +kernel
theorem d_p15m35_100 : decode prog_15_method_35_code 100 = .ok (.imul, 1) := by decide +kernel
theorem d_p15m35_101 : decode prog_15_method_35_code 101 = .ok (.iload 5, 2) := by decide +kernel
theorem d_p15m35_103 : decode prog_15_method_35_code 103 = .ok (.iadd, 1) := by decide +kernel
theorem d_p15m35_104 : decode prog_15_method_35_code 104 = .ok (.iaload, 1) := by decide +kernel
theorem d_p15m35_105 : decode prog_15_method_35_code 105 = .ok (.if_icmp .ne 7, 3) := by decide +kernel
theorem d_p15m35_108 : decode prog_15_method_35_code 108 = .ok (.iconst 1, 1) := by decide +kernel
theorem d_p15m35_109 : decode prog_15_method_35_code 109 = .ok (.goto 4, 3) := by decide +kernel
theorem d_p15m35_112 : decode prog_15_method_35_code 112 = .ok (.iconst 0, 1) := by decide +kernel
theorem d_p15m35_113 : decode prog_15_method_35_code 113 = .ok (.istore 4, 2) := by decide +kernel
theorem d_p15m35_115 : decode prog_15_method_35_code 115 = .ok (.iinc 5 1, 3) := by decide +kernel
theorem d_p15m35_118 : decode prog_15_method_35_code 118 = .ok (.goto (-53), 3) := by decide +kernel
theorem d_p15m35_121 : decode prog_15_method_35_code 121 = .ok (.iload 4, 2) := by decide +kernel
theorem d_p15m35_123 : decode prog_15_method_35_code 123 = .ok (.ireturn, 1) := by decide +kernel
abbrev y_Mod_fits : MethodName := ⟨"PolicyDeskModel", "fits", "(III)Z"⟩
theorem ok_Mod_fits : pd_ok y_Mod_fits prog_15_method_35_code 6 (some .boolean) 3 := ⟨mT_1420, mT_21, by decide, by decide +kernel⟩
abbrev rm_Mod_fits : Room := { frames := 1, cells := 0, slots := 0, locals := 25 }
set_option maxHeartbeats 4000000 in
set_option maxRecDepth 100000 in
theorem lp_Mod_fits_65 (l : Launch) (G : pd_G) (h : pd_H) {y : Nat} {ad : Nat → Nat} {fv : Nat → Nat → Int32} {iv : Nat → Int32} {tl : Int64} {n : Nat} {R : Nat → pd_cr} {k : Nat} {M : Nat → pd_mr} {u : Nat} {U : Nat → pd_rr} {r9 c9 : Nat} {o : Option Nat} (hMO : pd_MO G h y ad fv iv tl) (hC : gm_C fv iv n R) (hM : gm_M fv iv n k M) (hU : gm_U fv iv u U) (hr9 : r9 < u) (hc9 : c9 < n) (ho : ∀ t, o = some t → t < k) {p : Program} {e : Env} {s : State} {m : MethodId} {below : List Frame} {meth : Method} {c : Code} (X : pd_B p s m [.ref y, .int (nI r9), .int (nI c9), .int (pd_m o)].toArray meth c G y_Mod_fits.cls prog_15_method_35_code 6 (some .boolean)) (hmn : meth.name = y_Mod_fits.name) :
    ∀ (kk9 : Nat) (k9 : Nat) (sm : Bool) (j9 : Nat), (gr_fcl (R c9).1 (U r9).2.1 = true) → (o = some j9) → (j9 < k) → (gr_bh (U r9).2.1 = 2) → (k9 ≤ (gr_ad (U r9).2.1).length) → (sm = true → (gr_ad (U r9).2.1).length = (M j9).2.1.length ∧ ∀ t, t < k9 → (gr_ad (U r9).2.1).getD t 0 = (M j9).2.1.getD t 0) → (sm = false → ¬ (M j9).2.1 = gr_ad (U r9).2.1) → 100 - k9 < kk9 → ∀ (H : Heap) (locs : List Loc), pd_w G s H locs h → ∀ ls : Array Slot, lv_has ls 6 [(5, .int (nI k9)), (4, .int (pd_b sm)), (3, .int (nI j9)), (0, .ref y), (1, .int (nI r9)), (2, .int (nI c9))] → W p l e rm_Mod_fits s m [.ref y, .int (nI r9), .int (nI c9), .int (pd_m o)].toArray below meth c H locs 0 0 (MQ below (pd_Q G pd_vb (fun r h1 => r = gr_fits R M (U r9).2.1 c9 o ∧ h = h1)) [.ref y, .int (nI r9), .int (nI c9), .int (pd_m o)].toArray s rm_Mod_fits.cells rm_Mod_fits.slots (fun q => G.2.1 ≤ q)) (F0 m 65 ls []) := by
  have hx := X.1
  have hb := X.2.1
  have hz_y := hMO.2.1
  have hy0 : h y = some (20, .inr (10, [.ref (ad 0), .ref (ad 1), .ref (ad 2), .int (iv 3), .int (iv 4), .int (iv 5), .ref (ad 6), .ref (ad 7), .ref (ad 8), .ref (ad 9), .ref (ad 10), .ref (ad 11), .int (iv 12), .ref (ad 13), .ref (ad 14), .ref (ad 15), .ref (ad 16), .ref (ad 17), .ref (ad 18), .ref (ad 19), .int (iv 20), .ref (ad 21), .ref (ad 22), .ref (ad 23), .ref (ad 24), .ref (ad 25), .ref (ad 26), .ref (ad 27), .ref (ad 28), .int (iv 29), .ref (ad 30), .ref (ad 31), .int (iv 32), .int (iv 33), .int (iv 34), .int (iv 35), .long tl, .int (iv 37), .int (iv 38), .int (iv 39), .int (iv 40), .ref (ad 41), .ref (ad 42), .int (iv 43)])) := hMO.1
  have ha15 : h (ad 15) = some (45, .inl (.int, 288, .inl (fv 15))) := (hMO.2.2 15 (by decide)).1
  have ha16 : h (ad 16) = some (46, .inl (.int, 24, .inl (fv 16))) := (hMO.2.2 16 (by decide)).1
  have ha25 : h (ad 25) = some (55, .inl (.int, 24, .inl (fv 25))) := (hMO.2.2 25 (by decide)).1
  have ha26 : h (ad 26) = some (56, .inl (.int, 1440, .inl (fv 26))) := (hMO.2.2 26 (by decide)).1
  have ha27 : h (ad 27) = some (57, .inl (.int, 24, .inl (fv 27))) := (hMO.2.2 27 (by decide)).1
  obtain ⟨hiv20, hk24, hMm⟩ := id hM
  obtain ⟨hiv29, hu24, hUu⟩ := id hU
  obtain ⟨ru1, ru2, ru3, ru4, ru5, ru6, ru7, ru8, ru9, ru10, ru11⟩ := hUu r9 hr9
  have hrc := gr_rch_le (U r9).2.1
  have hbh := gr_bh_le (U r9).2.1
  have hil : ∀ x, o = some x → x < 2 ^ 31 := fun x hx => by have := ho x hx; omega
  intro kk9
  induction kk9 with
  | zero => intros; omega
  | succ kk9 ih =>
    intro k9 sm j9 hfc hoj hjk h2 hk9 hsm hns hmu H locs w ls hl
    obtain ⟨ad1, ad2, ad3, ad4⟩ := ru9 h2
    obtain ⟨mo1, mo2, mo3, mo4, mo5, mo6, mo7, mo8, mo9, mo10, mo11, mo12, mo13⟩ := hMm j9 hjk
    refine lv_iload hx hb d_p15m35_65 (lv_at hl 0 rfl) ?_
    refine lv_aload_n hx hb d_p15m35_67 rfl (lv_at hl 3 rfl) ?_
    refine pd_get X w hy0 rfl 27 (by decide) mT_1166 rfl rfl d_p15m35_68 ?_
    refine lv_iload_n hx hb d_p15m35_71 rfl (lv_at hl 4 rfl) ?_
    refine pd_iald X w ha27 (by omega) (by omega) d_p15m35_72 ?_
    refine pd_top (v' := .int (nI ((gr_ad (U r9).2.1).length))) (congrArg Value.int ad1) ?_
    refine pd_jge (tgt := 121) hx hb d_p15m35_73 (by decide) (by omega) (by omega) (fun q1 => ?_) (fun q1 => ?_)
    · -- taken: 121
      rcases Bool.eq_false_or_eq_true sm with q2 | q2
      · -- True
        rw [q2] at hl
        have hl : lv_has ls 6 [(5, .int (nI k9)), (4, .int (nI 1)), (3, .int (nI j9)), (0, .ref y), (1, .int (nI r9)), (2, .int (nI c9))] := hl
        refine lv_iload hx hb d_p15m35_121 (lv_at hl 1 rfl) ?_
        refine W.eq (g2 := F0 m 123 ls [.int (pd_b true)]) rfl ?_
        exact pd_zret (v := true) X w ⟨by unfold gr_fits gr_ftm; rw [hfc, hoj, if_neg (by omega)]; show true = ((if gr_bh (U r9).2.1 = 2 then decide ((M j9).2.1 = gr_ad (U r9).2.1) else true) && true); rw [if_pos h2, decide_eq_true (tx_ext (by have z := (hsm q2).1; omega) (fun t ht => ((hsm q2).2 t (by have z := (hsm q2).1; omega)).symm))]; rfl, rfl⟩ (by decide) (by decide) d_p15m35_123
      · -- False
        rw [q2] at hl
        have hl : lv_has ls 6 [(5, .int (nI k9)), (4, .int (nI 0)), (3, .int (nI j9)), (0, .ref y), (1, .int (nI r9)), (2, .int (nI c9))] := hl
        refine lv_iload hx hb d_p15m35_121 (lv_at hl 1 rfl) ?_
        refine W.eq (g2 := F0 m 123 ls [.int (pd_b false)]) rfl ?_
        exact pd_zret (v := false) X w ⟨by unfold gr_fits gr_ftm; rw [hfc, hoj, if_neg (by omega)]; show false = ((if gr_bh (U r9).2.1 = 2 then decide ((M j9).2.1 = gr_ad (U r9).2.1) else true) && true); rw [if_pos h2, decide_eq_false (hns q2)]; rfl, rfl⟩ (by decide) (by decide) d_p15m35_123
    · -- not taken: 76
      refine lv_iload hx hb d_p15m35_76 (lv_at hl 1 rfl) ?_
      refine pd_beq (tgt := 121) hx hb d_p15m35_78 (by decide) (fun q3 => ?_) (fun q3 => ?_)
      · -- taken: 121
        rw [q3] at hl
        have hl : lv_has ls 6 [(5, .int (nI k9)), (4, .int (nI 0)), (3, .int (nI j9)), (0, .ref y), (1, .int (nI r9)), (2, .int (nI c9))] := hl
        refine lv_iload hx hb d_p15m35_121 (lv_at hl 1 rfl) ?_
        refine W.eq (g2 := F0 m 123 ls [.int (pd_b false)]) rfl ?_
        exact pd_zret (v := false) X w ⟨by unfold gr_fits gr_ftm; rw [hfc, hoj, if_neg (by omega)]; show false = ((if gr_bh (U r9).2.1 = 2 then decide ((M j9).2.1 = gr_ad (U r9).2.1) else true) && true); rw [if_pos h2, decide_eq_false (hns q3)]; rfl, rfl⟩ (by decide) (by decide) d_p15m35_123
      · -- not taken: 81
        have hq := hsm q3
        refine lv_aload_n hx hb d_p15m35_81 rfl (lv_at hl 3 rfl) ?_
        refine pd_get X w hy0 rfl 26 (by decide) mT_1165 rfl rfl d_p15m35_82 ?_
        refine lv_bipush (v := nI 60) hx hb d_p15m35_85 (by decide) ?_
        refine lv_iload_n hx hb d_p15m35_87 rfl (lv_at hl 4 rfl) ?_
        refine pd_imul hx hb d_p15m35_88 ?_
        refine lv_iload hx hb d_p15m35_89 (lv_at hl 0 rfl) ?_
        refine pd_iadd hx hb d_p15m35_91 ?_
        refine pd_iald X w ha26 (by omega) (by omega) d_p15m35_92 ?_
        refine pd_top (v' := .int (nI ((gr_ad (U r9).2.1).getD k9 0))) (congrArg Value.int (ad3 k9 (by omega))) ?_
        have := tx_lt ad4 k9
        refine lv_aload_n hx hb d_p15m35_93 rfl (lv_at hl 3 rfl) ?_
        refine pd_get X w hy0 rfl 15 (by decide) mT_1154 rfl rfl d_p15m35_94 ?_
        refine lv_bipush (v := nI 12) hx hb d_p15m35_97 (by decide) ?_
        refine lv_iload_n hx hb d_p15m35_99 rfl (lv_at hl 2 rfl) ?_
        refine pd_imul hx hb d_p15m35_100 ?_
        refine lv_iload hx hb d_p15m35_101 (lv_at hl 0 rfl) ?_
        refine pd_iadd hx hb d_p15m35_103 ?_
        refine pd_iald X w ha15 (by omega) (by omega) d_p15m35_104 ?_
        refine pd_top (v' := .int (nI ((M j9).2.1.getD k9 0))) (congrArg Value.int (mo7 k9 (by omega))) ?_
        have := tx_lt mo8 k9
        refine pd_jne (tgt := 112) hx hb d_p15m35_105 (by decide) (by omega) (by omega) (fun q4 => ?_) (fun q4 => ?_)
        · -- taken: 112
          refine lv_iconst (v := nI 0) hx hb d_p15m35_112 (by decide) ?_
          refine lv_istore (lv' := [(4, .int (nI 0)), (5, .int (nI k9)), (3, .int (nI j9)), (0, .ref y), (1, .int (nI r9)), (2, .int (nI c9))]) hx hb d_p15m35_113 hl (by decide) rfl (fun ls hl => ?_)
          refine pd_iinc (k := 1) (d := 1) (lv' := [(5, .int (nI (k9 + 1))), (4, .int (nI 0)), (3, .int (nI j9)), (0, .ref y), (1, .int (nI r9)), (2, .int (nI c9))]) hx hb d_p15m35_115 (by decide) hl rfl (by decide) rfl (fun ls hl => ?_)
          refine lv_goto (tgt := 65) hx hb d_p15m35_118 (by decide) ?_
          exact ih (k9 + 1) false j9 (hfc) (hoj) (hjk) (h2) (by omega) (fun z => by cases z) (fun _ z => absurd (show (gr_ad (U r9).2.1).getD k9 0 = (M j9).2.1.getD k9 0 by rw [z]) (by omega)) (by omega) _ _ w ls (lv_sub hl [0, 1, 2, 3, 4, 5] rfl)
        · -- not taken: 108
          refine lv_iconst (v := nI 1) hx hb d_p15m35_108 (by decide) ?_
          refine lv_goto (tgt := 113) hx hb d_p15m35_109 (by decide) ?_
          refine lv_istore (lv' := [(4, .int (nI 1)), (5, .int (nI k9)), (3, .int (nI j9)), (0, .ref y), (1, .int (nI r9)), (2, .int (nI c9))]) hx hb d_p15m35_113 hl (by decide) rfl (fun ls hl => ?_)
          refine pd_iinc (k := 1) (d := 1) (lv' := [(5, .int (nI (k9 + 1))), (4, .int (nI 1)), (3, .int (nI j9)), (0, .ref y), (1, .int (nI r9)), (2, .int (nI c9))]) hx hb d_p15m35_115 (by decide) hl rfl (by decide) rfl (fun ls hl => ?_)
          refine lv_goto (tgt := 65) hx hb d_p15m35_118 (by decide) ?_
          exact ih (k9 + 1) true j9 (hfc) (hoj) (hjk) (h2) (by omega) (fun _ => ⟨hq.1, fun t ht => by by_cases e9 : t = k9; subst e9; omega; exact hq.2 t (by omega)⟩) (fun z => by cases z) (by omega) _ _ w ls (lv_sub hl [0, 1, 2, 3, 4, 5] rfl)
set_option maxHeartbeats 4000000 in
set_option maxRecDepth 100000 in
theorem c_Mod_fits (l : Launch) (G : pd_G) (h : pd_H) {y : Nat} {ad : Nat → Nat} {fv : Nat → Nat → Int32} {iv : Nat → Int32} {tl : Int64} {n : Nat} {R : Nat → pd_cr} {k : Nat} {M : Nat → pd_mr} {u : Nat} {U : Nat → pd_rr} {r9 c9 : Nat} {o : Option Nat} (hMO : pd_MO G h y ad fv iv tl) (hC : gm_C fv iv n R) (hM : gm_M fv iv n k M) (hU : gm_U fv iv u U) (hr9 : r9 < u) (hc9 : c9 < n) (ho : ∀ t, o = some t → t < k) : pd_M l y_Mod_fits prog_15_method_35_code 6 (some .boolean) rm_Mod_fits G h [.ref y, .int (nI r9), .int (nI c9), .int (pd_m o)] pd_vb (fun r h1 => r = gr_fits R M (U r9).2.1 c9 o ∧ h = h1) := by
  refine pd_M.of (by decide) (Nat.le_of_ble_eq_true rfl) ?_
  intro p e s m below meth c X hmn w ls hl
  have hx := X.1
  have hb := X.2.1
  have hl : lv_has ls 6 [(0, .ref y), (1, .int (nI r9)), (2, .int (nI c9)), (3, .int (pd_m o))] := hl
  have hz_y := hMO.2.1
  have hy0 : h y = some (20, .inr (10, [.ref (ad 0), .ref (ad 1), .ref (ad 2), .int (iv 3), .int (iv 4), .int (iv 5), .ref (ad 6), .ref (ad 7), .ref (ad 8), .ref (ad 9), .ref (ad 10), .ref (ad 11), .int (iv 12), .ref (ad 13), .ref (ad 14), .ref (ad 15), .ref (ad 16), .ref (ad 17), .ref (ad 18), .ref (ad 19), .int (iv 20), .ref (ad 21), .ref (ad 22), .ref (ad 23), .ref (ad 24), .ref (ad 25), .ref (ad 26), .ref (ad 27), .ref (ad 28), .int (iv 29), .ref (ad 30), .ref (ad 31), .int (iv 32), .int (iv 33), .int (iv 34), .int (iv 35), .long tl, .int (iv 37), .int (iv 38), .int (iv 39), .int (iv 40), .ref (ad 41), .ref (ad 42), .int (iv 43)])) := hMO.1
  have ha15 : h (ad 15) = some (45, .inl (.int, 288, .inl (fv 15))) := (hMO.2.2 15 (by decide)).1
  have ha16 : h (ad 16) = some (46, .inl (.int, 24, .inl (fv 16))) := (hMO.2.2 16 (by decide)).1
  have ha25 : h (ad 25) = some (55, .inl (.int, 24, .inl (fv 25))) := (hMO.2.2 25 (by decide)).1
  have ha26 : h (ad 26) = some (56, .inl (.int, 1440, .inl (fv 26))) := (hMO.2.2 26 (by decide)).1
  have ha27 : h (ad 27) = some (57, .inl (.int, 24, .inl (fv 27))) := (hMO.2.2 27 (by decide)).1
  obtain ⟨hiv20, hk24, hMm⟩ := id hM
  obtain ⟨hiv29, hu24, hUu⟩ := id hU
  obtain ⟨ru1, ru2, ru3, ru4, ru5, ru6, ru7, ru8, ru9, ru10, ru11⟩ := hUu r9 hr9
  have hrc := gr_rch_le (U r9).2.1
  have hbh := gr_bh_le (U r9).2.1
  have hil : ∀ x, o = some x → x < 2 ^ 31 := fun x hx => by have := ho x hx; omega
  refine lv_aload_n hx hb d_p15m35_0 rfl (lv_at hl 0 rfl) ?_
  refine lv_iload_n hx hb d_p15m35_1 rfl (lv_at hl 1 rfl) ?_
  refine lv_iload_n hx hb d_p15m35_2 rfl (lv_at hl 2 rfl) ?_
  refine pd_cV (a := y) (As := [.int (nI r9), .int (nI c9)]) (rest := []) X w hy0 rfl (c_Mod_fitsClass l G h (ad := ad) (fv := fv) (iv := iv) (tl := tl) hMO (by assumption) (by assumption) (by omega) (by omega)) ok_Mod_fitsClass ⟨mT_1423, sT_43⟩ mT_1421 ⟨by decide, by decide⟩ rfl hl.1 rfl (Nat.le_of_ble_eq_true rfl) d_p15m35_3 ⟨by decide, by decide⟩ (fun r1 h2 H locs hp3 w => ?_)
  refine W.widen (k := 0) (n := 0) (by decide) (by decide) ?_
  obtain ⟨e4, rfl⟩ := hp3
  refine pd_beq (tgt := 22) hx hb d_p15m35_6 (by decide) (fun q5 => ?_) (fun q5 => ?_)
  · -- taken: 22
    refine lv_iconst (v := nI 0) hx hb d_p15m35_22 (by decide) ?_
    refine W.eq (g2 := F0 m 23 ls [.int (pd_b false)]) rfl ?_
    exact pd_zret (v := false) X w ⟨by unfold gr_fits; rw [← e4, q5, Bool.and_false], rfl⟩ (by decide) (by decide) d_p15m35_23
  · -- not taken: 9
    refine lv_iload_n hx hb d_p15m35_9 rfl (lv_at hl 3 rfl) ?_
    refine pd_mge (tgt := 24) hx hb d_p15m35_10 (by decide) hil (fun q6 => ?_) (fun j7 q6 => ?_)
    · -- none: 13
      rw [q6] at hl
      have hl : lv_has ls 6 [(0, .ref y), (1, .int (nI r9)), (2, .int (nI c9)), (3, .int (-1))] := hl
      refine lv_aload_n hx hb d_p15m35_13 rfl (lv_at hl 0 rfl) ?_
      refine pd_get X w hy0 rfl 25 (by decide) mT_1164 rfl rfl d_p15m35_14 ?_
      refine lv_iload_n hx hb d_p15m35_17 rfl (lv_at hl 1 rfl) ?_
      refine pd_iald X w ha25 (by omega) (by omega) d_p15m35_18 ?_
      refine pd_top (v' := .int (nI (gr_bh (U r9).2.1))) (congrArg Value.int ru8) ?_
      refine pd_zle (tgt := 24) hx hb d_p15m35_19 (by decide) (by omega) (fun q8 => ?_) (fun q8 => ?_)
      · -- taken: 24
        refine lv_iload_n hx hb d_p15m35_24 rfl (lv_at hl 3 rfl) ?_
        refine lv_if_lt (tgt := 38) hx hb d_p15m35_25 (by decide) (fun _ => ?_) (fun q => absurd (by decide) q)
        refine lv_iconst (v := nI 1) hx hb d_p15m35_38 (by decide) ?_
        refine W.eq (g2 := F0 m 39 ls [.int (pd_b true)]) rfl ?_
        exact pd_zret (v := true) X w ⟨by unfold gr_fits gr_ftm; rw [← e4, q5, if_pos (by omega)]; rfl, rfl⟩ (by decide) (by decide) d_p15m35_39
      · -- not taken: 22
        refine lv_iconst (v := nI 0) hx hb d_p15m35_22 (by decide) ?_
        refine W.eq (g2 := F0 m 23 ls [.int (pd_b false)]) rfl ?_
        exact pd_zret (v := false) X w ⟨by unfold gr_fits gr_ftm; rw [if_neg (by omega), q6]; rfl, rfl⟩ (by decide) (by decide) d_p15m35_23
    · -- some: 24
      rw [q6] at hl
      have hl : lv_has ls 6 [(0, .ref y), (1, .int (nI r9)), (2, .int (nI c9)), (3, .int (nI j7))] := hl
      have hjk := ho j7 q6
      obtain ⟨mo1, mo2, mo3, mo4, mo5, mo6, mo7, mo8, mo9, mo10, mo11, mo12, mo13⟩ := hMm j7 hjk
      refine lv_iload_n hx hb d_p15m35_24 rfl (lv_at hl 3 rfl) ?_
      refine pd_zlt (tgt := 38) hx hb d_p15m35_25 (by decide) (by omega) ?_
      refine lv_aload_n hx hb d_p15m35_28 rfl (lv_at hl 0 rfl) ?_
      refine pd_get X w hy0 rfl 25 (by decide) mT_1164 rfl rfl d_p15m35_29 ?_
      refine lv_iload_n hx hb d_p15m35_32 rfl (lv_at hl 1 rfl) ?_
      refine pd_iald X w ha25 (by omega) (by omega) d_p15m35_33 ?_
      refine pd_top (v' := .int (nI (gr_bh (U r9).2.1))) (congrArg Value.int ru8) ?_
      refine lv_iconst (v := nI 2) hx hb d_p15m35_34 (by decide) ?_
      refine pd_jge (tgt := 40) hx hb d_p15m35_35 (by decide) (by omega) (by omega) (fun q11 => ?_) (fun q11 => ?_)
      · -- taken: 40
        have h2 : gr_bh (U r9).2.1 = 2 := by omega
        obtain ⟨ad1, ad2, ad3, ad4⟩ := ru9 h2
        refine lv_aload_n hx hb d_p15m35_40 rfl (lv_at hl 0 rfl) ?_
        refine pd_get X w hy0 rfl 27 (by decide) mT_1166 rfl rfl d_p15m35_41 ?_
        refine lv_iload_n hx hb d_p15m35_44 rfl (lv_at hl 1 rfl) ?_
        refine pd_iald X w ha27 (by omega) (by omega) d_p15m35_45 ?_
        refine pd_top (v' := .int (nI ((gr_ad (U r9).2.1).length))) (congrArg Value.int ad1) ?_
        refine lv_aload_n hx hb d_p15m35_46 rfl (lv_at hl 0 rfl) ?_
        refine pd_get X w hy0 rfl 16 (by decide) mT_1155 rfl rfl d_p15m35_47 ?_
        refine lv_iload_n hx hb d_p15m35_50 rfl (lv_at hl 3 rfl) ?_
        refine pd_iald X w ha16 (by omega) (by omega) d_p15m35_51 ?_
        refine pd_top (v' := .int (nI ((M j7).2.1.length))) (congrArg Value.int mo5) ?_
        refine pd_jne (tgt := 59) hx hb d_p15m35_52 (by decide) (by omega) (by omega) (fun q12 => ?_) (fun q12 => ?_)
        · -- taken: 59
          refine lv_iconst (v := nI 0) hx hb d_p15m35_59 (by decide) ?_
          refine lv_istore (lv' := [(4, .int (nI 0)), (0, .ref y), (1, .int (nI r9)), (2, .int (nI c9)), (3, .int (nI j7))]) hx hb d_p15m35_60 hl (by decide) rfl (fun ls hl => ?_)
          refine lv_iconst (v := nI 0) hx hb d_p15m35_62 (by decide) ?_
          refine lv_istore (lv' := [(5, .int (nI 0)), (4, .int (nI 0)), (0, .ref y), (1, .int (nI r9)), (2, .int (nI c9)), (3, .int (nI j7))]) hx hb d_p15m35_63 hl (by decide) rfl (fun ls hl => ?_)
          exact lp_Mod_fits_65 l G h hMO hC hM hU hr9 hc9 ho X hmn (100 + 1) 0 false j7 (e4.symm.trans q5) (q6) (hjk) (h2) (by omega) (fun z => by cases z) (fun _ z => absurd (congrArg List.length z) (by omega)) (by omega) _ _ w ls (lv_sub hl [0, 1, 5, 2, 3, 4] rfl)
        · -- not taken: 55
          refine lv_iconst (v := nI 1) hx hb d_p15m35_55 (by decide) ?_
          refine lv_goto (tgt := 60) hx hb d_p15m35_56 (by decide) ?_
          refine lv_istore (lv' := [(4, .int (nI 1)), (0, .ref y), (1, .int (nI r9)), (2, .int (nI c9)), (3, .int (nI j7))]) hx hb d_p15m35_60 hl (by decide) rfl (fun ls hl => ?_)
          refine lv_iconst (v := nI 0) hx hb d_p15m35_62 (by decide) ?_
          refine lv_istore (lv' := [(5, .int (nI 0)), (4, .int (nI 1)), (0, .ref y), (1, .int (nI r9)), (2, .int (nI c9)), (3, .int (nI j7))]) hx hb d_p15m35_63 hl (by decide) rfl (fun ls hl => ?_)
          exact lp_Mod_fits_65 l G h hMO hC hM hU hr9 hc9 ho X hmn (100 + 1) 0 true j7 (e4.symm.trans q5) (q6) (hjk) (h2) (by omega) (fun _ => ⟨by omega, fun t ht => absurd ht (Nat.not_lt_zero t)⟩) (fun z => by cases z) (by omega) _ _ w ls (lv_sub hl [0, 1, 5, 2, 3, 4] rfl)
      · -- not taken: 38
        refine lv_iconst (v := nI 1) hx hb d_p15m35_38 (by decide) ?_
        refine W.eq (g2 := F0 m 39 ls [.int (pd_b true)]) rfl ?_
        exact pd_zret (v := true) X w ⟨by unfold gr_fits gr_ftm; rw [← e4, q5, q6]; by_cases z : gr_bh (U r9).2.1 = 0; rw [if_pos z]; rfl; rw [if_neg z]; show true = ((if gr_bh (U r9).2.1 = 2 then _ else true) && true); rw [if_neg (by omega)]; rfl, rfl⟩ (by decide) (by decide) d_p15m35_39
theorem d_p15m37_0 : decode prog_15_method_37_code 0 = .ok (.iconst (-1), 1) := by decide +kernel
theorem d_p15m37_1 : decode prog_15_method_37_code 1 = .ok (.istore 5, 2) := by decide +kernel
theorem d_p15m37_3 : decode prog_15_method_37_code 3 = .ok (.iconst 0, 1) := by decide +kernel
theorem d_p15m37_4 : decode prog_15_method_37_code 4 = .ok (.istore 6, 2) := by decide +kernel
theorem d_p15m37_6 : decode prog_15_method_37_code 6 = .ok (.iload 6, 2) := by decide +kernel
theorem d_p15m37_8 : decode prog_15_method_37_code 8 = .ok (.aload_n 0, 1) := by decide +kernel
theorem d_p15m37_9 : decode prog_15_method_37_code 9 = .ok (.getfield 256, 3) := by decide +kernel
theorem d_p15m37_12 : decode prog_15_method_37_code 12 = .ok (.if_icmp .ge 63, 3) := by decide +kernel
theorem d_p15m37_15 : decode prog_15_method_37_code 15 = .ok (.aload_n 0, 1) := by decide +kernel
theorem d_p15m37_16 : decode prog_15_method_37_code 16 = .ok (.getfield 63, 3) := by decide +kernel
theorem d_p15m37_19 : decode prog_15_method_37_code 19 = .ok (.iload 6, 2) := by decide +kernel
theorem d_p15m37_21 : decode prog_15_method_37_code 21 = .ok (.iaload, 1) := by decide +kernel
theorem d_p15m37_22 : decode prog_15_method_37_code 22 = .ok (.iload_n 1, 1) := by decide +kernel
theorem d_p15m37_23 : decode prog_15_method_37_code 23 = .ok (.if_icmp .eq 14, 3) := by decide +kernel
theorem d_p15m37_26 : decode prog_15_method_37_code 26 = .ok (.aload_n 0, 1) := by decide +kernel
theorem d_p15m37_27 : decode prog_15_method_37_code 27 = .ok (.getfield 63, 3) := by decide +kernel
theorem d_p15m37_30 : decode prog_15_method_37_code 30 = .ok (.iload 6, 2) := by decide +kernel
theorem d_p15m37_32 : decode prog_15_method_37_code 32 = .ok (.iaload, 1) := by decide +kernel
theorem d_p15m37_33 : decode prog_15_method_37_code 33 = .ok (.iload_n 2, 1) := by decide +kernel
theorem d_p15m37_34 : decode prog_15_method_37_code 34 = .ok (.if_icmp .ne 35, 3) := by decide +kernel
theorem d_p15m37_37 : decode prog_15_method_37_code 37 = .ok (.aload_n 0, 1) := by decide +kernel
theorem d_p15m37_38 : decode prog_15_method_37_code 38 = .ok (.iload 6, 2) := by decide +kernel
theorem d_p15m37_40 : decode prog_15_method_37_code 40 = .ok (.iload_n 3, 1) := by decide +kernel
theorem d_p15m37_41 : decode prog_15_method_37_code 41 = .ok (.iload 4, 2) := by decide +kernel
theorem d_p15m37_43 : decode prog_15_method_37_code 43 = .ok (.invokevirtual 263, 3) := by decide +kernel
theorem d_p15m37_46 : decode prog_15_method_37_code 46 = .ok (.ifCond .eq 23, 3) := by decide +kernel
theorem d_p15m37_49 : decode prog_15_method_37_code 49 = .ok (.iload 5, 2) := by decide +kernel
theorem d_p15m37_51 : decode prog_15_method_37_code 51 = .ok (.ifCond .lt 14, 3) := by decide +kernel
theorem d_p15m37_54 : decode prog_15_method_37_code 54 = .ok (.aload_n 0, 1) := by decide +kernel
theorem d_p15m37_55 : decode prog_15_method_37_code 55 = .ok (.iload 6, 2) := by decide +kernel
theorem d_p15m37_57 : decode prog_15_method_37_code 57 = .ok (.iload 5, 2) := by decide +kernel
theorem d_p15m37_59 : decode prog_15_method_37_code 59 = .ok (.invokevirtual 266, 3) := by decide +kernel
theorem d_p15m37_62 : decode prog_15_method_37_code 62 = .ok (.ifCond .eq 7, 3) := by decide +kernel
theorem d_p15m37_65 : decode prog_15_method_37_code 65 = .ok (.iload 6, 2) := by decide +kernel
theorem d_p15m37_67 : decode prog_15_method_37_code 67 = .ok (.istore 5, 2) := by decide +kernel
theorem d_p15m37_69 : decode prog_15_method_37_code 69 = .ok (.iinc 6 1, 3) := by decide +kernel
theorem d_p15m37_72 : decode prog_15_method_37_code 72 = .ok (.goto (-66), 3) := by decide +kernel
theorem d_p15m37_75 : decode prog_15_method_37_code 75 = .ok (.iload 5, 2) := by decide +kernel
theorem d_p15m37_77 : decode prog_15_method_37_code 77 = .ok (.ireturn, 1) := by decide +kernel
abbrev y_Mod_best : MethodName := ⟨"PolicyDeskModel", "best", "(IIII)I"⟩
theorem ok_Mod_best : pd_ok y_Mod_best prog_15_method_37_code 7 (some .int) 4 := ⟨mT_1416, mT_21, by decide, by decide +kernel⟩
abbrev rm_Mod_best : Room := { frames := 2, cells := 0, slots := 0, locals := 50 }
set_option maxHeartbeats 4000000 in
set_option maxRecDepth 100000 in
theorem lp_Mod_best_6 (l : Launch) (G : pd_G) (h : pd_H) {y : Nat} {ad : Nat → Nat} {fv : Nat → Nat → Int32} {iv : Nat → Int32} {tl : Int64} {n : Nat} {R : Nat → pd_cr} {k : Nat} {M : Nat → pd_mr} {u : Nat} {U : Nat → pd_rr} {w1 w2 c9 : Nat} {o : Option Nat} (hMO : pd_MO G h y ad fv iv tl) (hC : gm_C fv iv n R) (hM : gm_M fv iv n k M) (hU : gm_U fv iv u U) (hw1 : w1 < 10) (hw2 : w2 < 10) (hc9 : c9 < n) (ho : ∀ t, o = some t → t < k) {p : Program} {e : Env} {s : State} {m : MethodId} {below : List Frame} {meth : Method} {c : Code} (X : pd_B p s m [.ref y, .int (nI w1), .int (nI w2), .int (nI c9), .int (pd_m o)].toArray meth c G y_Mod_best.cls prog_15_method_37_code 7 (some .int)) (hmn : meth.name = y_Mod_best.name) :
    ∀ (kk9 : Nat) (i : Nat) (b : Option Nat), (i ≤ u) → (∀ t, b = some t → t < u) → (gr_bst R M U (w1 + 4) (w2 + 4) c9 o i = b) → u - i < kk9 → ∀ (H : Heap) (locs : List Loc), pd_w G s H locs h → ∀ ls : Array Slot, lv_has ls 7 [(6, .int (nI i)), (5, .int (pd_m b)), (0, .ref y), (1, .int (nI w1)), (2, .int (nI w2)), (3, .int (nI c9)), (4, .int (pd_m o))] → W p l e rm_Mod_best s m [.ref y, .int (nI w1), .int (nI w2), .int (nI c9), .int (pd_m o)].toArray below meth c H locs 0 0 (MQ below (pd_Q G pd_vm (fun r h1 => r = gr_bst R M U (w1 + 4) (w2 + 4) c9 o u ∧ h = h1)) [.ref y, .int (nI w1), .int (nI w2), .int (nI c9), .int (pd_m o)].toArray s rm_Mod_best.cells rm_Mod_best.slots (fun q => G.2.1 ≤ q)) (F0 m 6 ls []) := by
  have hx := X.1
  have hb := X.2.1
  have hz_y := hMO.2.1
  have hy0 : h y = some (20, .inr (10, [.ref (ad 0), .ref (ad 1), .ref (ad 2), .int (iv 3), .int (iv 4), .int (iv 5), .ref (ad 6), .ref (ad 7), .ref (ad 8), .ref (ad 9), .ref (ad 10), .ref (ad 11), .int (iv 12), .ref (ad 13), .ref (ad 14), .ref (ad 15), .ref (ad 16), .ref (ad 17), .ref (ad 18), .ref (ad 19), .int (iv 20), .ref (ad 21), .ref (ad 22), .ref (ad 23), .ref (ad 24), .ref (ad 25), .ref (ad 26), .ref (ad 27), .ref (ad 28), .int (iv 29), .ref (ad 30), .ref (ad 31), .int (iv 32), .int (iv 33), .int (iv 34), .int (iv 35), .long tl, .int (iv 37), .int (iv 38), .int (iv 39), .int (iv 40), .ref (ad 41), .ref (ad 42), .int (iv 43)])) := hMO.1
  have ha21 : h (ad 21) = some (51, .inl (.int, 24, .inl (fv 21))) := (hMO.2.2 21 (by decide)).1
  obtain ⟨hiv29, hu24, hUu⟩ := id hU
  intro kk9
  induction kk9 with
  | zero => intros; omega
  | succ kk9 ih =>
    intro i b hi hbo hv hmu H locs w ls hl
    have hil : ∀ x, b = some x → x < 2 ^ 31 := fun x hx => by have := hbo x hx; omega
    refine lv_iload hx hb d_p15m37_6 (lv_at hl 0 rfl) ?_
    refine lv_aload_n hx hb d_p15m37_8 rfl (lv_at hl 2 rfl) ?_
    refine pd_get X w hy0 rfl 29 (by decide) mT_1168 rfl rfl d_p15m37_9 ?_
    refine pd_top (v' := .int (nI u)) (congrArg Value.int hiv29) ?_
    refine pd_jge (tgt := 75) hx hb d_p15m37_12 (by decide) (by omega) (by omega) (fun q1 => ?_) (fun q1 => ?_)
    · -- taken: 75
      refine lv_iload hx hb d_p15m37_75 (lv_at hl 1 rfl) ?_
      exact pd_mret (v := b) X w ⟨by rw [← hv, show i = u by omega], rfl⟩ (by decide) (by decide) d_p15m37_77
    · -- not taken: 15
      refine lv_aload_n hx hb d_p15m37_15 rfl (lv_at hl 2 rfl) ?_
      refine pd_get X w hy0 rfl 21 (by decide) mT_1160 rfl rfl d_p15m37_16 ?_
      refine lv_iload hx hb d_p15m37_19 (lv_at hl 0 rfl) ?_
      refine pd_iald X w ha21 (by omega) (by omega) d_p15m37_21 ?_
      refine pd_top (v' := .int (nI ((U i).1 - 4))) (congrArg Value.int (hUu i (by omega)).1) ?_
      have hv47 := (hUu i (by omega)).2.1
      refine lv_iload_n hx hb d_p15m37_22 rfl (lv_at hl 3 rfl) ?_
      refine pd_jeq (tgt := 37) hx hb d_p15m37_23 (by decide) (by omega) (by omega) (fun q2 => ?_) (fun q2 => ?_)
      · -- taken: 37
        have hmt : (U i).1 = w1 + 4 ∨ (U i).1 = w2 + 4 := by omega
        refine lv_aload_n hx hb d_p15m37_37 rfl (lv_at hl 2 rfl) ?_
        refine lv_iload hx hb d_p15m37_38 (lv_at hl 0 rfl) ?_
        refine lv_iload_n hx hb d_p15m37_40 rfl (lv_at hl 5 rfl) ?_
        refine lv_iload hx hb d_p15m37_41 (lv_at hl 6 rfl) ?_
        refine pd_cV (a := y) (As := [.int (nI i), .int (nI c9), .int (pd_m o)]) (rest := []) X w hy0 rfl (c_Mod_fits l G h (ad := ad) (fv := fv) (iv := iv) (tl := tl) hMO (by assumption) (by assumption) (by assumption) (by omega) (by omega) (by assumption)) ok_Mod_fits ⟨mT_1419, sT_42⟩ mT_1417 ⟨by decide, by decide⟩ rfl hl.1 rfl (Nat.le_of_ble_eq_true rfl) d_p15m37_43 ⟨by decide, by decide⟩ (fun r3 h4 H locs hp5 w => ?_)
        refine W.widen (k := 0) (n := 0) (by decide) (by decide) ?_
        obtain ⟨e6, rfl⟩ := hp5
        refine pd_beq (tgt := 69) hx hb d_p15m37_46 (by decide) (fun q7 => ?_) (fun q7 => ?_)
        · -- taken: 69
          refine pd_iinc (k := 0) (d := 1) (lv' := [(6, .int (nI (i + 1))), (5, .int (pd_m b)), (0, .ref y), (1, .int (nI w1)), (2, .int (nI w2)), (3, .int (nI c9)), (4, .int (pd_m o))]) hx hb d_p15m37_69 (by decide) hl rfl (by decide) rfl (fun ls hl => ?_)
          refine lv_goto (tgt := 6) hx hb d_p15m37_72 (by decide) ?_
          exact ih (i + 1) b (by omega) (fun t ht => by first | (cases ht; omega) | exact hbo t ht) (gr_bst_n3 hv (e6.symm.trans q7)) (by omega) _ _ w ls (lv_sub hl [0, 1, 2, 3, 4, 5, 6] rfl)
        · -- not taken: 49
          refine lv_iload hx hb d_p15m37_49 (lv_at hl 1 rfl) ?_
          refine pd_mlt (tgt := 65) hx hb d_p15m37_51 (by decide) hil (fun q8 => ?_) (fun j9 q8 => ?_)
          · -- none: 65
            rw [q8] at hl
            have hl : lv_has ls 7 [(6, .int (nI i)), (5, .int (-1)), (0, .ref y), (1, .int (nI w1)), (2, .int (nI w2)), (3, .int (nI c9)), (4, .int (pd_m o))] := hl
            have hbt : gr_btr U b i = true := by rw [q8]; rfl
            refine lv_iload hx hb d_p15m37_65 (lv_at hl 0 rfl) ?_
            refine lv_istore (lv' := [(5, .int (nI i)), (6, .int (nI i)), (0, .ref y), (1, .int (nI w1)), (2, .int (nI w2)), (3, .int (nI c9)), (4, .int (pd_m o))]) hx hb d_p15m37_67 hl (by decide) rfl (fun ls hl => ?_)
            refine pd_iinc (k := 1) (d := 1) (lv' := [(6, .int (nI (i + 1))), (5, .int (nI i)), (0, .ref y), (1, .int (nI w1)), (2, .int (nI w2)), (3, .int (nI c9)), (4, .int (pd_m o))]) hx hb d_p15m37_69 (by decide) hl rfl (by decide) rfl (fun ls hl => ?_)
            refine lv_goto (tgt := 6) hx hb d_p15m37_72 (by decide) ?_
            exact ih (i + 1) (some i) (by omega) (fun t ht => by first | (cases ht; omega) | exact hbo t ht) (gr_bst_y hv hmt hbt (e6.symm.trans q7)) (by omega) _ _ w ls (lv_sub hl [0, 1, 2, 3, 4, 5, 6] rfl)
          · -- some: 54
            rw [q8] at hl
            have hl : lv_has ls 7 [(6, .int (nI i)), (5, .int (nI j9)), (0, .ref y), (1, .int (nI w1)), (2, .int (nI w2)), (3, .int (nI c9)), (4, .int (pd_m o))] := hl
            have hjb := hbo j9 q8
            refine lv_aload_n hx hb d_p15m37_54 rfl (lv_at hl 2 rfl) ?_
            refine lv_iload hx hb d_p15m37_55 (lv_at hl 0 rfl) ?_
            refine lv_iload hx hb d_p15m37_57 (lv_at hl 1 rfl) ?_
            refine pd_cV (a := y) (As := [.int (nI i), .int (nI j9)]) (rest := []) X w hy0 rfl (c_Mod_isBetter l G h (ad := ad) (fv := fv) (iv := iv) (tl := tl) hMO (by assumption) (by omega) (by omega)) ok_Mod_isBetter ⟨mT_1427, sT_44⟩ mT_1425 ⟨by decide, by decide⟩ rfl hl.1 rfl (Nat.le_of_ble_eq_true rfl) d_p15m37_59 ⟨by decide, by decide⟩ (fun r10 h11 H locs hp12 w => ?_)
            refine W.widen (k := 0) (n := 0) (by decide) (by decide) ?_
            obtain ⟨e13, rfl⟩ := hp12
            refine pd_beq (tgt := 69) hx hb d_p15m37_62 (by decide) (fun q14 => ?_) (fun q14 => ?_)
            · -- taken: 69
              refine pd_iinc (k := 0) (d := 1) (lv' := [(6, .int (nI (i + 1))), (5, .int (nI j9)), (0, .ref y), (1, .int (nI w1)), (2, .int (nI w2)), (3, .int (nI c9)), (4, .int (pd_m o))]) hx hb d_p15m37_69 (by decide) hl rfl (by decide) rfl (fun ls hl => ?_)
              refine lv_goto (tgt := 6) hx hb d_p15m37_72 (by decide) ?_
              exact ih (i + 1) (some j9) (by omega) (fun t ht => by first | (cases ht; omega) | exact hbo t ht) ((gr_bst_n2 hv (by rw [q8]; exact e13.symm.trans q14)).trans q8) (by omega) _ _ w ls (lv_sub hl [0, 1, 2, 3, 4, 5, 6] rfl)
            · -- not taken: 65
              have hbt : gr_btr U b i = true := by rw [q8]; exact e13.symm.trans q14
              refine lv_iload hx hb d_p15m37_65 (lv_at hl 0 rfl) ?_
              refine lv_istore (lv' := [(5, .int (nI i)), (6, .int (nI i)), (0, .ref y), (1, .int (nI w1)), (2, .int (nI w2)), (3, .int (nI c9)), (4, .int (pd_m o))]) hx hb d_p15m37_67 hl (by decide) rfl (fun ls hl => ?_)
              refine pd_iinc (k := 1) (d := 1) (lv' := [(6, .int (nI (i + 1))), (5, .int (nI i)), (0, .ref y), (1, .int (nI w1)), (2, .int (nI w2)), (3, .int (nI c9)), (4, .int (pd_m o))]) hx hb d_p15m37_69 (by decide) hl rfl (by decide) rfl (fun ls hl => ?_)
              refine lv_goto (tgt := 6) hx hb d_p15m37_72 (by decide) ?_
              exact ih (i + 1) (some i) (by omega) (fun t ht => by first | (cases ht; omega) | exact hbo t ht) (gr_bst_y hv hmt hbt (e6.symm.trans q7)) (by omega) _ _ w ls (lv_sub hl [0, 1, 2, 3, 4, 5, 6] rfl)
      · -- not taken: 26
        refine lv_aload_n hx hb d_p15m37_26 rfl (lv_at hl 2 rfl) ?_
        refine pd_get X w hy0 rfl 21 (by decide) mT_1160 rfl rfl d_p15m37_27 ?_
        refine lv_iload hx hb d_p15m37_30 (lv_at hl 0 rfl) ?_
        refine pd_iald X w ha21 (by omega) (by omega) d_p15m37_32 ?_
        refine pd_top (v' := .int (nI ((U i).1 - 4))) (congrArg Value.int (hUu i (by omega)).1) ?_
        have hv47 := (hUu i (by omega)).2.1
        refine lv_iload_n hx hb d_p15m37_33 rfl (lv_at hl 4 rfl) ?_
        refine pd_jne (tgt := 69) hx hb d_p15m37_34 (by decide) (by omega) (by omega) (fun q15 => ?_) (fun q15 => ?_)
        · -- taken: 69
          refine pd_iinc (k := 0) (d := 1) (lv' := [(6, .int (nI (i + 1))), (5, .int (pd_m b)), (0, .ref y), (1, .int (nI w1)), (2, .int (nI w2)), (3, .int (nI c9)), (4, .int (pd_m o))]) hx hb d_p15m37_69 (by decide) hl rfl (by decide) rfl (fun ls hl => ?_)
          refine lv_goto (tgt := 6) hx hb d_p15m37_72 (by decide) ?_
          exact ih (i + 1) b (by omega) (fun t ht => by first | (cases ht; omega) | exact hbo t ht) (gr_bst_n1 hv (by omega) (by omega)) (by omega) _ _ w ls (lv_sub hl [0, 1, 2, 3, 4, 5, 6] rfl)
        · -- not taken: 37
          have hmt : (U i).1 = w1 + 4 ∨ (U i).1 = w2 + 4 := by omega
          refine lv_aload_n hx hb d_p15m37_37 rfl (lv_at hl 2 rfl) ?_
          refine lv_iload hx hb d_p15m37_38 (lv_at hl 0 rfl) ?_
          refine lv_iload_n hx hb d_p15m37_40 rfl (lv_at hl 5 rfl) ?_
          refine lv_iload hx hb d_p15m37_41 (lv_at hl 6 rfl) ?_
          refine pd_cV (a := y) (As := [.int (nI i), .int (nI c9), .int (pd_m o)]) (rest := []) X w hy0 rfl (c_Mod_fits l G h (ad := ad) (fv := fv) (iv := iv) (tl := tl) hMO (by assumption) (by assumption) (by assumption) (by omega) (by omega) (by assumption)) ok_Mod_fits ⟨mT_1419, sT_42⟩ mT_1417 ⟨by decide, by decide⟩ rfl hl.1 rfl (Nat.le_of_ble_eq_true rfl) d_p15m37_43 ⟨by decide, by decide⟩ (fun r16 h17 H locs hp18 w => ?_)
          refine W.widen (k := 0) (n := 0) (by decide) (by decide) ?_
          obtain ⟨e19, rfl⟩ := hp18
          refine pd_beq (tgt := 69) hx hb d_p15m37_46 (by decide) (fun q20 => ?_) (fun q20 => ?_)
          · -- taken: 69
            refine pd_iinc (k := 0) (d := 1) (lv' := [(6, .int (nI (i + 1))), (5, .int (pd_m b)), (0, .ref y), (1, .int (nI w1)), (2, .int (nI w2)), (3, .int (nI c9)), (4, .int (pd_m o))]) hx hb d_p15m37_69 (by decide) hl rfl (by decide) rfl (fun ls hl => ?_)
            refine lv_goto (tgt := 6) hx hb d_p15m37_72 (by decide) ?_
            exact ih (i + 1) b (by omega) (fun t ht => by first | (cases ht; omega) | exact hbo t ht) (gr_bst_n3 hv (e19.symm.trans q20)) (by omega) _ _ w ls (lv_sub hl [0, 1, 2, 3, 4, 5, 6] rfl)
          · -- not taken: 49
            refine lv_iload hx hb d_p15m37_49 (lv_at hl 1 rfl) ?_
            refine pd_mlt (tgt := 65) hx hb d_p15m37_51 (by decide) hil (fun q21 => ?_) (fun j22 q21 => ?_)
            · -- none: 65
              rw [q21] at hl
              have hl : lv_has ls 7 [(6, .int (nI i)), (5, .int (-1)), (0, .ref y), (1, .int (nI w1)), (2, .int (nI w2)), (3, .int (nI c9)), (4, .int (pd_m o))] := hl
              have hbt : gr_btr U b i = true := by rw [q21]; rfl
              refine lv_iload hx hb d_p15m37_65 (lv_at hl 0 rfl) ?_
              refine lv_istore (lv' := [(5, .int (nI i)), (6, .int (nI i)), (0, .ref y), (1, .int (nI w1)), (2, .int (nI w2)), (3, .int (nI c9)), (4, .int (pd_m o))]) hx hb d_p15m37_67 hl (by decide) rfl (fun ls hl => ?_)
              refine pd_iinc (k := 1) (d := 1) (lv' := [(6, .int (nI (i + 1))), (5, .int (nI i)), (0, .ref y), (1, .int (nI w1)), (2, .int (nI w2)), (3, .int (nI c9)), (4, .int (pd_m o))]) hx hb d_p15m37_69 (by decide) hl rfl (by decide) rfl (fun ls hl => ?_)
              refine lv_goto (tgt := 6) hx hb d_p15m37_72 (by decide) ?_
              exact ih (i + 1) (some i) (by omega) (fun t ht => by first | (cases ht; omega) | exact hbo t ht) (gr_bst_y hv hmt hbt (e19.symm.trans q20)) (by omega) _ _ w ls (lv_sub hl [0, 1, 2, 3, 4, 5, 6] rfl)
            · -- some: 54
              rw [q21] at hl
              have hl : lv_has ls 7 [(6, .int (nI i)), (5, .int (nI j22)), (0, .ref y), (1, .int (nI w1)), (2, .int (nI w2)), (3, .int (nI c9)), (4, .int (pd_m o))] := hl
              have hjb := hbo j22 q21
              refine lv_aload_n hx hb d_p15m37_54 rfl (lv_at hl 2 rfl) ?_
              refine lv_iload hx hb d_p15m37_55 (lv_at hl 0 rfl) ?_
              refine lv_iload hx hb d_p15m37_57 (lv_at hl 1 rfl) ?_
              refine pd_cV (a := y) (As := [.int (nI i), .int (nI j22)]) (rest := []) X w hy0 rfl (c_Mod_isBetter l G h (ad := ad) (fv := fv) (iv := iv) (tl := tl) hMO (by assumption) (by omega) (by omega)) ok_Mod_isBetter ⟨mT_1427, sT_44⟩ mT_1425 ⟨by decide, by decide⟩ rfl hl.1 rfl (Nat.le_of_ble_eq_true rfl) d_p15m37_59 ⟨by decide, by decide⟩ (fun r23 h24 H locs hp25 w => ?_)
              refine W.widen (k := 0) (n := 0) (by decide) (by decide) ?_
              obtain ⟨e26, rfl⟩ := hp25
              refine pd_beq (tgt := 69) hx hb d_p15m37_62 (by decide) (fun q27 => ?_) (fun q27 => ?_)
              · -- taken: 69
                refine pd_iinc (k := 0) (d := 1) (lv' := [(6, .int (nI (i + 1))), (5, .int (nI j22)), (0, .ref y), (1, .int (nI w1)), (2, .int (nI w2)), (3, .int (nI c9)), (4, .int (pd_m o))]) hx hb d_p15m37_69 (by decide) hl rfl (by decide) rfl (fun ls hl => ?_)
                refine lv_goto (tgt := 6) hx hb d_p15m37_72 (by decide) ?_
                exact ih (i + 1) (some j22) (by omega) (fun t ht => by first | (cases ht; omega) | exact hbo t ht) ((gr_bst_n2 hv (by rw [q21]; exact e26.symm.trans q27)).trans q21) (by omega) _ _ w ls (lv_sub hl [0, 1, 2, 3, 4, 5, 6] rfl)
              · -- not taken: 65
                have hbt : gr_btr U b i = true := by rw [q21]; exact e26.symm.trans q27
                refine lv_iload hx hb d_p15m37_65 (lv_at hl 0 rfl) ?_
                refine lv_istore (lv' := [(5, .int (nI i)), (6, .int (nI i)), (0, .ref y), (1, .int (nI w1)), (2, .int (nI w2)), (3, .int (nI c9)), (4, .int (pd_m o))]) hx hb d_p15m37_67 hl (by decide) rfl (fun ls hl => ?_)
                refine pd_iinc (k := 1) (d := 1) (lv' := [(6, .int (nI (i + 1))), (5, .int (nI i)), (0, .ref y), (1, .int (nI w1)), (2, .int (nI w2)), (3, .int (nI c9)), (4, .int (pd_m o))]) hx hb d_p15m37_69 (by decide) hl rfl (by decide) rfl (fun ls hl => ?_)
                refine lv_goto (tgt := 6) hx hb d_p15m37_72 (by decide) ?_
                exact ih (i + 1) (some i) (by omega) (fun t ht => by first | (cases ht; omega) | exact hbo t ht) (gr_bst_y hv hmt hbt (e19.symm.trans q20)) (by omega) _ _ w ls (lv_sub hl [0, 1, 2, 3, 4, 5, 6] rfl)
set_option maxHeartbeats 4000000 in
set_option maxRecDepth 100000 in
theorem c_Mod_best (l : Launch) (G : pd_G) (h : pd_H) {y : Nat} {ad : Nat → Nat} {fv : Nat → Nat → Int32} {iv : Nat → Int32} {tl : Int64} {n : Nat} {R : Nat → pd_cr} {k : Nat} {M : Nat → pd_mr} {u : Nat} {U : Nat → pd_rr} {w1 w2 c9 : Nat} {o : Option Nat} (hMO : pd_MO G h y ad fv iv tl) (hC : gm_C fv iv n R) (hM : gm_M fv iv n k M) (hU : gm_U fv iv u U) (hw1 : w1 < 10) (hw2 : w2 < 10) (hc9 : c9 < n) (ho : ∀ t, o = some t → t < k) : pd_M l y_Mod_best prog_15_method_37_code 7 (some .int) rm_Mod_best G h [.ref y, .int (nI w1), .int (nI w2), .int (nI c9), .int (pd_m o)] pd_vm (fun r h1 => r = gr_bst R M U (w1 + 4) (w2 + 4) c9 o u ∧ h = h1) := by
  refine pd_M.of (by decide) (Nat.le_of_ble_eq_true rfl) ?_
  intro p e s m below meth c X hmn w ls hl
  have hx := X.1
  have hb := X.2.1
  have hl : lv_has ls 7 [(0, .ref y), (1, .int (nI w1)), (2, .int (nI w2)), (3, .int (nI c9)), (4, .int (pd_m o))] := hl
  have hz_y := hMO.2.1
  have hy0 : h y = some (20, .inr (10, [.ref (ad 0), .ref (ad 1), .ref (ad 2), .int (iv 3), .int (iv 4), .int (iv 5), .ref (ad 6), .ref (ad 7), .ref (ad 8), .ref (ad 9), .ref (ad 10), .ref (ad 11), .int (iv 12), .ref (ad 13), .ref (ad 14), .ref (ad 15), .ref (ad 16), .ref (ad 17), .ref (ad 18), .ref (ad 19), .int (iv 20), .ref (ad 21), .ref (ad 22), .ref (ad 23), .ref (ad 24), .ref (ad 25), .ref (ad 26), .ref (ad 27), .ref (ad 28), .int (iv 29), .ref (ad 30), .ref (ad 31), .int (iv 32), .int (iv 33), .int (iv 34), .int (iv 35), .long tl, .int (iv 37), .int (iv 38), .int (iv 39), .int (iv 40), .ref (ad 41), .ref (ad 42), .int (iv 43)])) := hMO.1
  have ha21 : h (ad 21) = some (51, .inl (.int, 24, .inl (fv 21))) := (hMO.2.2 21 (by decide)).1
  obtain ⟨hiv29, hu24, hUu⟩ := id hU
  refine lv_iconst (v := -1) hx hb d_p15m37_0 (by decide) ?_
  refine lv_istore (lv' := [(5, .int (-1)), (0, .ref y), (1, .int (nI w1)), (2, .int (nI w2)), (3, .int (nI c9)), (4, .int (pd_m o))]) hx hb d_p15m37_1 hl (by decide) rfl (fun ls hl => ?_)
  refine lv_iconst (v := nI 0) hx hb d_p15m37_3 (by decide) ?_
  refine lv_istore (lv' := [(6, .int (nI 0)), (5, .int (-1)), (0, .ref y), (1, .int (nI w1)), (2, .int (nI w2)), (3, .int (nI c9)), (4, .int (pd_m o))]) hx hb d_p15m37_4 hl (by decide) rfl (fun ls hl => ?_)
  exact lp_Mod_best_6 l G h hMO hC hM hU hw1 hw2 hc9 ho X hmn (u + 1) 0 none (by omega) (fun t ht => by cases ht) (rfl) (by omega) _ _ w ls (lv_sub hl [0, 1, 2, 3, 4, 5, 6] rfl)
