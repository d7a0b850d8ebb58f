/-! a line of the reference -/
theorem nI_n1 {n : Nat} (h : n < 2 ^ 31) : ¬ nI n = -1 := fun z => absurd (show (-1 : Int32) < 0 by decide) (by rw [← z]; exact nI_pos h)
theorem gr_aok_1 : ¬ gr_aok (-1) := by
  intro h
  rcases h with h | h | h | h | ⟨n, hn, h⟩ | ⟨n, hn, h⟩
  · exact absurd h (by decide)
  · exact absurd h (by decide)
  · exact absurd h (by decide)
  · exact absurd h (by decide)
  · exact nI_n1 (by omega) h.symm
  · exact nI_n1 (by omega) h.symm
theorem gr_hd_ne {n : Nat} {R : Nat → pd_cr} {cs : List Nat} {bi : Bool} {ff : Nat} {up fi se : Option Nat} {a : Int32} (h : gr_hd n R cs bi ff up fi se = .inl a) : ¬ a = -1 := by
  unfold gr_hd at h
  split at h
  · cases h; decide
  · split at h
    · cases h; decide
    · split at h
      · cases h; decide
      · split at h
        · cases h; decide
        · cases h
theorem gr_dc_ne {n : Nat} {R : Nat → pd_cr} {cs : List Nat} {bi : Bool} {ff : Nat} (hn : n ≤ 14) : ¬ (gr_dc n R cs bi ff).1 = -1 := by
  unfold gr_dc
  split
  · rename_i a ha
    exact gr_hd_ne ha
  · unfold gr_cadd
    split
    · exact nI_n1 (by omega)
    · show ¬ (-5 : Int32) = -1
      decide
theorem gr_dm_ne {n : Nat} {R : Nat → pd_cr} {k : Nat} {M : Nat → pd_mr} {cs : List Nat} (hk : k ≤ 24) : ¬ (gr_dm n R k M cs).1 = -1 := by
  unfold gr_dm
  split
  · show ¬ (-2 : Int32) = -1
    decide
  · split
    · show ¬ (-3 : Int32) = -1
      decide
    · split
      · show ¬ (-4 : Int32) = -1
        decide
      · unfold gr_madd
        split
        · exact nI_n1 (by omega)
        · show ¬ (-5 : Int32) = -1
          decide
theorem gr_radd_ne {u : Nat} {U : Nat → pd_rr} {r : pd_rr} (hu : u ≤ 24) : ¬ (gr_radd u U r).1 = -1 := by
  unfold gr_radd
  split
  · exact nI_n1 (by omega)
  · show ¬ (-5 : Int32) = -1
    decide
theorem gr_dr_ne {n : Nat} {R : Nat → pd_cr} {k : Nat} {M : Nat → pd_mr} {u : Nat} {U : Nat → pd_rr} {cs : List Nat} {v : Nat} (hu : u ≤ 24) : ¬ (gr_dr n R k M u U cs v).1 = -1 := by
  unfold gr_dr
  split
  · split
    · show ¬ (-2 : Int32) = -1
      decide
    · split
      · exact gr_radd_ne hu
      · show ¬ (-4 : Int32) = -1
        decide
  · exact gr_radd_ne hu
theorem gm_V.c {k u : Nat} {U : Nat → pd_rr} (h : gm_V k u U) : ∀ i, i < u → (U i).2.2.1 < 1000 := fun i hi => (h i hi).2.2
theorem gm_V.s {k u : Nat} {U : Nat → pd_rr} (h : gm_V k u U) : ∀ i, i < u → ∀ b, (U i).2.2.2 = some b → b < k := fun i hi b hb => by
  by_cases e : (U i).1 = 7
  · obtain ⟨b2, h1, h2⟩ := (h i hi).1 e
    rw [hb] at h1
    cases h1
    exact h2
  · rw [(h i hi).2.1 e] at hb
    cases hb
theorem gr_do_ne {fv : Nat → Nat → Int32} {iv : Nat → Int32} {tl : Int64} {cs : List Nat} {n : Nat} {R : Nat → pd_cr} {k : Nat} {M : Nat → pd_mr} {u : Nat} {U : Nat → pd_rr} {T : Nat → List Nat} {kp nx : Nat} {sp : Int64} {an gn sn dn : Nat} {v : Nat} (hv : v < 13) (hR : gm_R fv iv tl n R k M u U T kp nx sp an gn dn) (hV : gm_V k u U) : ¬ (gr_do cs n R k M u U T kp nx sp an gn sn dn v).1 = -1 := by
  have hn := hR.1.2.2.1
  have hk := hR.2.1.2.1
  have hu := hR.2.2.1.2.1
  rcases (show v = 0 ∨ v = 1 ∨ v = 2 ∨ v = 3 ∨ v = 4 ∨ v = 5 ∨ v = 6 ∨ v = 7 ∨ v = 8 ∨ v = 9 ∨ v = 10 ∨ v = 11 ∨ v = 12 by omega) with rfl | rfl | rfl | rfl | rfl | rfl | rfl | rfl | rfl | rfl | rfl | rfl | rfl
  · exact gr_dc_ne hn
  · exact gr_dc_ne hn
  · exact gr_dm_ne hk
  · exact gr_dm_ne hk
  · exact gr_dr_ne (v := 4) hu
  · exact gr_dr_ne (v := 5) hu
  · exact gr_dr_ne (v := 6) hu
  · exact gr_dr_ne (v := 7) hu
  · exact (fun z => gr_aok_1 (by have q := gr_jc_ok (n := n) (R := R) (M := M) (u := u) (U := U) (cs := cs) (v := 8) hV.c; rw [show (gr_do cs n R k M u U T kp nx sp an gn sn dn 8).1 = (gr_jc n R M u U cs 8).1 from rfl] at z; rw [z] at q; exact q))
  · exact (fun z => gr_aok_1 (by have q := gr_jc_ok (n := n) (R := R) (M := M) (u := u) (U := U) (cs := cs) (v := 9) hV.c; rw [show (gr_do cs n R k M u U T kp nx sp an gn sn dn 9).1 = (gr_jc n R M u U cs 9).1 from rfl] at z; rw [z] at q; exact q))
  · exact (fun z => gr_aok_1 (by have q := gr_jc_ok (n := n) (R := R) (M := M) (u := u) (U := U) (cs := cs) (v := 10) hV.c; rw [show (gr_do cs n R k M u U T kp nx sp an gn sn dn 10).1 = (gr_jc n R M u U cs 10).1 from rfl] at z; rw [z] at q; exact q))
  · exact (fun z => gr_aok_1 (by have q := gr_jm_ok (n := n) (R := R) (k := k) (M := M) (u := u) (U := U) (cs := cs) (v := 11) hV.c hV.s hk; rw [show (gr_do cs n R k M u U T kp nx sp an gn sn dn 11).1 = (gr_jm n R k M u U cs 11).1 from rfl] at z; rw [z] at q; exact q))
  · exact (fun z => gr_aok_1 (by have q := gr_jm_ok (n := n) (R := R) (k := k) (M := M) (u := u) (U := U) (cs := cs) (v := 12) hV.c hV.s hk; rw [show (gr_do cs n R k M u U T kp nx sp an gn sn dn 12).1 = (gr_jm n R k M u U cs 12).1 from rfl] at z; rw [z] at q; exact q))
theorem gr_do_sn {cs : List Nat} {n : Nat} {R : Nat → pd_cr} {k : Nat} {M : Nat → pd_mr} {u : Nat} {U : Nat → pd_rr} {T : Nat → List Nat} {kp nx : Nat} {sp : Int64} {an gn sn dn : Nat} {v : Nat} (hv : v < 13) : (gr_do cs n R k M u U T kp nx sp an gn sn dn v).2.1 = [] ∧ (gr_do cs n R k M u U T kp nx sp an gn sn dn v).2.2.2.2.2.2.2.2.2.1 = sn := by
  rcases (show v = 0 ∨ v = 1 ∨ v = 2 ∨ v = 3 ∨ v = 4 ∨ v = 5 ∨ v = 6 ∨ v = 7 ∨ v = 8 ∨ v = 9 ∨ v = 10 ∨ v = 11 ∨ v = 12 by omega) with rfl | rfl | rfl | rfl | rfl | rfl | rfl | rfl | rfl | rfl | rfl | rfl | rfl <;> exact ⟨rfl, rfl⟩
def gm_ZT (fv : Nat → Nat → Int32) (iv : Nat → Int32) (tl : Int64) (z : pd_st) : Prop := gm_L fv iv z.1 ∧ iv 5 = nI z.2.2.2.2.2.2.2.2.1 ∧ gm_RT fv iv tl z
theorem gm_L_nil {fv : Nat → Nat → Int32} {iv : Nat → Int32} (h : iv 3 = nI 0) : gm_L fv iv [] := ⟨h, fun i hi => absurd hi (Nat.not_lt_zero i), Nat.zero_le _, fun x hx => by cases hx⟩
theorem gm_Q_y {fv : Nat → Nat → Int32} {iv : Nat → Int32} {tl : Int64} {cs : List Nat} {n : Nat} {R : Nat → pd_cr} {k : Nat} {M : Nat → pd_mr} {u : Nat} {U : Nat → pd_rr} {T : Nat → List Nat} {kp nx : Nat} {sp : Int64} {an gn sn dn : Nat} {r : Int32} (q : ((r = -1 ∧ gr_line cs n R k M u U T kp nx sp an gn sn dn = (-1, [], (n, R), (k, M), (u, U), (T, kp, nx), sp, an, gn, sn + 1, dn) ∧ gm_R fv iv tl n R k M u U T kp nx sp an gn dn) ∨ (∃ v, v < 13 ∧ gr_line cs n R k M u U T kp nx sp an gn sn dn = gr_do cs n R k M u U T kp nx sp an gn sn dn v ∧ r = (gr_do cs n R k M u U T kp nx sp an gn sn dn v).1 ∧ gm_RT fv iv tl (gr_do cs n R k M u U T kp nx sp an gn sn dn v).2))) (hne : ∀ v, v < 13 → ¬ (gr_do cs n R k M u U T kp nx sp an gn sn dn v).1 = -1) (hr : r = -1) : gr_line cs n R k M u U T kp nx sp an gn sn dn = (-1, [], (n, R), (k, M), (u, U), (T, kp, nx), sp, an, gn, sn + 1, dn) ∧ gm_R fv iv tl n R k M u U T kp nx sp an gn dn := by
  rcases q with ⟨_, h1, h2⟩ | ⟨v, hv, h1, h2, h3⟩
  · exact ⟨h1, h2⟩
  · exact absurd (h2.symm.trans hr) (hne v hv)
theorem gm_Q_n {fv : Nat → Nat → Int32} {iv : Nat → Int32} {tl : Int64} {cs : List Nat} {n : Nat} {R : Nat → pd_cr} {k : Nat} {M : Nat → pd_mr} {u : Nat} {U : Nat → pd_rr} {T : Nat → List Nat} {kp nx : Nat} {sp : Int64} {an gn sn dn : Nat} {r : Int32} (q : ((r = -1 ∧ gr_line cs n R k M u U T kp nx sp an gn sn dn = (-1, [], (n, R), (k, M), (u, U), (T, kp, nx), sp, an, gn, sn + 1, dn) ∧ gm_R fv iv tl n R k M u U T kp nx sp an gn dn) ∨ (∃ v, v < 13 ∧ gr_line cs n R k M u U T kp nx sp an gn sn dn = gr_do cs n R k M u U T kp nx sp an gn sn dn v ∧ r = (gr_do cs n R k M u U T kp nx sp an gn sn dn v).1 ∧ gm_RT fv iv tl (gr_do cs n R k M u U T kp nx sp an gn sn dn v).2))) (hr : ¬ r = -1) : r = (gr_line cs n R k M u U T kp nx sp an gn sn dn).1 ∧ gm_RT fv iv tl (gr_line cs n R k M u U T kp nx sp an gn sn dn).2 ∧ (gr_line cs n R k M u U T kp nx sp an gn sn dn).2.1 = [] ∧ (gr_line cs n R k M u U T kp nx sp an gn sn dn).2.2.2.2.2.2.2.2.2.1 = sn := by
  rcases q with ⟨h0, h1, h2⟩ | ⟨v, hv, h1, h2, h3⟩
  · exact absurd h0 hr
  · rw [h1]
    exact ⟨h2, h3, gr_do_sn hv⟩
theorem gm_line_0 {cs : List Nat} {n : Nat} {R : Nat → pd_cr} {k : Nat} {M : Nat → pd_mr} {u : Nat} {U : Nat → pd_rr} {T : Nat → List Nat} {kp nx : Nat} {sp : Int64} {an gn sn dn : Nat} (h : (gm_split cs).1 = 0) : gr_line cs n R k M u U T kp nx sp an gn sn dn = (-1, [], (n, R), (k, M), (u, U), (T, kp, nx), sp, an, gn, sn + 1, dn) := by
  unfold gr_line
  rw [gm_w_no (by omega), gr_verb_nil]
theorem d_p15m27_0 : decode prog_15_method_27_code 0 = .ok (.aload_n 0, 1) := by decide +kernel
theorem d_p15m27_1 : decode prog_15_method_27_code 1 = .ok (.invokevirtual 169, 3) := by decide +kernel
theorem d_p15m27_4 : decode prog_15_method_27_code 4 = .ok (.istore_n 1, 1) := by decide +kernel
theorem d_p15m27_5 : decode prog_15_method_27_code 5 = .ok (.iload_n 1, 1) := by decide +kernel
theorem d_p15m27_6 : decode prog_15_method_27_code 6 = .ok (.ifCond .ne 7, 3) := by decide +kernel
theorem d_p15m27_9 : decode prog_15_method_27_code 9 = .ok (.iconst (-1), 1) := by decide +kernel
theorem d_p15m27_10 : decode prog_15_method_27_code 10 = .ok (.goto 8, 3) := by decide +kernel
theorem d_p15m27_13 : decode prog_15_method_27_code 13 = .ok (.aload_n 0, 1) := by decide +kernel
theorem d_p15m27_14 : decode prog_15_method_27_code 14 = .ok (.iload_n 1, 1) := by decide +kernel
theorem d_p15m27_15 : decode prog_15_method_27_code 15 = .ok (.invokevirtual 173, 3) := by decide +kernel
theorem d_p15m27_18 : decode prog_15_method_27_code 18 = .ok (.istore_n 2, 1) := by decide +kernel
theorem d_p15m27_19 : decode prog_15_method_27_code 19 = .ok (.iload_n 2, 1) := by decide +kernel
theorem d_p15m27_20 : decode prog_15_method_27_code 20 = .ok (.iconst (-1), 1) := by decide +kernel
theorem d_p15m27_21 : decode prog_15_method_27_code 21 = .ok (.if_icmp .ne 13, 3) := by decide +kernel
theorem d_p15m27_24 : decode prog_15_method_27_code 24 = .ok (.aload_n 0, 1) := by decide +kernel
theorem d_p15m27_25 : decode prog_15_method_27_code 25 = .ok (.dup, 1) := by decide +kernel
theorem d_p15m27_26 : decode prog_15_method_27_code 26 = .ok (.getfield 177, 3) := by decide +kernel
theorem d_p15m27_29 : decode prog_15_method_27_code 29 = .ok (.iconst 1, 1) := by decide +kernel
theorem d_p15m27_30 : decode prog_15_method_27_code 30 = .ok (.iadd, 1) := by decide +kernel
theorem d_p15m27_31 : decode prog_15_method_27_code 31 = .ok (.putfield 177, 3) := by decide +kernel
theorem d_p15m27_34 : decode prog_15_method_27_code 34 = .ok (.aload_n 0, 1) := by decide +kernel
theorem d_p15m27_35 : decode prog_15_method_27_code 35 = .ok (.iconst 0, 1) := by decide +kernel
theorem d_p15m27_36 : decode prog_15_method_27_code 36 = .ok (.putfield 113, 3) := by decide +kernel
theorem d_p15m27_39 : decode prog_15_method_27_code 39 = .ok (.iload_n 2, 1) := by decide +kernel
theorem d_p15m27_40 : decode prog_15_method_27_code 40 = .ok (.ireturn, 1) := by decide +kernel
abbrev y_Mod_line : MethodName := ⟨"PolicyDeskModel", "line", "()I"⟩
theorem ok_Mod_line : pd_ok y_Mod_line prog_15_method_27_code 3 (some .int) 0 := ⟨mT_1287, mT_21, by decide, by decide +kernel⟩
abbrev rm_Mod_line : Room := { frames := 8, cells := 0, slots := 0, locals := 187 }
set_option maxHeartbeats 4000000 in
set_option maxRecDepth 100000 in
theorem c_Mod_line (l : Launch) (G : pd_G) (h : pd_H) {y : Nat} {ad : Nat → Nat} {fv : Nat → Nat → Int32} {iv : Nat → Int32} {tl : Int64} {cs : List Nat} {n : Nat} {R : Nat → pd_cr} {k : Nat} {M : Nat → pd_mr} {u : Nat} {U : Nat → pd_rr} {T : Nat → List Nat} {kp nx : Nat} {sp : Int64} {an gn sn dn : Nat} (hMO : pd_MO G h y ad fv iv tl) (hL : gm_L fv iv cs) (hR : gm_R fv iv tl n R k M u U T kp nx sp an gn dn) (hI : gm_I n R k u U) (han : an < 1000) (hiv5 : iv 5 = nI sn) (hsn : sn < 1000) : pd_M l y_Mod_line prog_15_method_27_code 3 (some .int) rm_Mod_line G h [.ref y] Value.int (fun r h1 => pd_kx pd_wk h h1 ∧ r = (gr_line cs n R k M u U T kp nx sp an gn sn dn).1 ∧ ∃ (fv2 : Nat → Nat → Int32) (iv2 : Nat → Int32) (tl2 : Int64), pd_MO G h1 y ad fv2 iv2 tl2 ∧ gm_ZT fv2 iv2 tl2 (gr_line cs n R k M u U T kp nx sp an gn sn dn).2) := by
  refine pd_M.of (by decide) (Nat.le_of_ble_eq_true rfl) ?_
  intro p e s m below meth c X hmn w ls hl
  have hx := X.1
  have hb := X.2.1
  have hl : lv_has ls 3 [(0, .ref y)] := hl
  have hz_y := hMO.2.1
  have hy0 : h y = some (20, .inr (10, [.ref (ad 0), .ref (ad 1), .ref (ad 2), .int (iv 3), .int (iv 4), .int (iv 5), .ref (ad 6), .ref (ad 7), .ref (ad 8), .ref (ad 9), .ref (ad 10), .ref (ad 11), .int (iv 12), .ref (ad 13), .ref (ad 14), .ref (ad 15), .ref (ad 16), .ref (ad 17), .ref (ad 18), .ref (ad 19), .int (iv 20), .ref (ad 21), .ref (ad 22), .ref (ad 23), .ref (ad 24), .ref (ad 25), .ref (ad 26), .ref (ad 27), .ref (ad 28), .int (iv 29), .ref (ad 30), .ref (ad 31), .int (iv 32), .int (iv 33), .int (iv 34), .int (iv 35), .long tl, .int (iv 37), .int (iv 38), .int (iv 39), .int (iv 40), .ref (ad 41), .ref (ad 42), .int (iv 43)])) := hMO.1
  refine lv_aload_n hx hb d_p15m27_0 rfl (lv_at hl 0 rfl) ?_
  refine pd_cV (a := y) (As := []) (rest := []) X w hy0 rfl (c_Mod_split l G h (ad := ad) (fv := fv) (iv := iv) (tl := tl) hMO (by assumption)) ok_Mod_split ⟨mT_1290, sT_13⟩ mT_1288 ⟨by decide, by decide⟩ rfl hl.1 rfl (Nat.le_of_ble_eq_true rfl) d_p15m27_1 ⟨by decide, by decide⟩ (fun r1 h2 H locs hp3 w => ?_)
  refine W.widen (k := 0) (n := 0) (by decide) (by decide) ?_
  obtain ⟨k4, f5, f6, v7, f8, e9, hw10⟩ := hp3
  have hy11 : h2 y = some (20, .inr (10, [.ref (ad 0), .ref (ad 1), .ref (ad 2), .int (iv 3), .int v7, .int (iv 5), .ref (ad 6), .ref (ad 7), .ref (ad 8), .ref (ad 9), .ref (ad 10), .ref (ad 11), .int (iv 12), .ref (ad 13), .ref (ad 14), .ref (ad 15), .ref (ad 16), .ref (ad 17), .ref (ad 18), .ref (ad 19), .int (iv 20), .ref (ad 21), .ref (ad 22), .ref (ad 23), .ref (ad 24), .ref (ad 25), .ref (ad 26), .ref (ad 27), .ref (ad 28), .int (iv 29), .ref (ad 30), .ref (ad 31), .int (iv 32), .int (iv 33), .int (iv 34), .int (iv 35), .long tl, .int (iv 37), .int (iv 38), .int (iv 39), .int (iv 40), .ref (ad 41), .ref (ad 42), .int (iv 43)])) := f8.1
  refine lv_istore_n (lv' := [(1, .int (nI r1)), (0, .ref y)]) hx hb d_p15m27_4 rfl hl (by decide) rfl (fun ls hl => ?_)
  have hn31 : (gm_split cs).1 ≤ 31 := by by_cases z : (gm_split cs).1 = 0; omega; exact (hw10 z).1
  refine lv_iload_n hx hb d_p15m27_5 rfl (lv_at hl 0 rfl) ?_
  refine pd_zne (tgt := 13) hx hb d_p15m27_6 (by decide) (by omega) (fun q12 => ?_) (fun q12 => ?_)
  · -- taken: 13
    have hn0 : ¬ (gm_split cs).1 = 0 := fun z => q12 (e9.trans z)
    have hWq := hw10 hn0
    subst e9
    refine lv_aload_n hx hb d_p15m27_13 rfl (lv_at hl 1 rfl) ?_
    refine lv_iload_n hx hb d_p15m27_14 rfl (lv_at hl 0 rfl) ?_
    refine pd_cV (a := y) (As := [.int (nI ((gm_split cs).1))]) (rest := []) X w hy11 rfl (c_Mod_work l G h2 (cs := cs) (n := n) (R := R) (k := k) (M := M) (u := u) (U := U) (T := T) (kp := kp) (nx := nx) (sp := sp) (an := an) (gn := gn) (sn := sn) (dn := dn) (ad := ad) (fv := pd_fu (pd_fu fv 1 f5) 2 f6) (iv := pd_fu iv 4 v7) (tl := tl) f8 hL (gm_R_0 hR ⟨fun j hj => by simp at hj; simp [pd_fu, hj], fun j hj => by simp at hj; simp [pd_fu, hj]⟩) hI hWq han (by omega)) ok_Mod_work ⟨mT_1294, sT_14⟩ mT_1292 ⟨by decide, by decide⟩ rfl hl.1 rfl (Nat.le_of_ble_eq_true rfl) d_p15m27_15 ⟨by decide, by decide⟩ (fun r13 h14 H locs hp15 w => ?_)
    refine W.widen (k := 0) (n := 0) (by decide) (by decide) ?_
    obtain ⟨fz16, iz17, tz18, f19, e20, k21, q22⟩ := hp15
    have k21x : pd_kx [20, 30, 31, 32, 36, 37, 38, 39, 40, 41, 43, 44, 45, 46, 47, 48, 49, 51, 52, 53, 54, 55, 56, 57, 58, 60, 61, 71, 72] h2 h14 := k21
    have hy23 : h14 y = some (20, .inr (10, [.ref (ad 0), .ref (ad 1), .ref (ad 2), .int (iz17 3), .int (iz17 4), .int (iz17 5), .ref (ad 6), .ref (ad 7), .ref (ad 8), .ref (ad 9), .ref (ad 10), .ref (ad 11), .int (iz17 12), .ref (ad 13), .ref (ad 14), .ref (ad 15), .ref (ad 16), .ref (ad 17), .ref (ad 18), .ref (ad 19), .int (iz17 20), .ref (ad 21), .ref (ad 22), .ref (ad 23), .ref (ad 24), .ref (ad 25), .ref (ad 26), .ref (ad 27), .ref (ad 28), .int (iz17 29), .ref (ad 30), .ref (ad 31), .int (iz17 32), .int (iz17 33), .int (iz17 34), .int (iz17 35), .long tz18, .int (iz17 37), .int (iz17 38), .int (iz17 39), .int (iz17 40), .ref (ad 41), .ref (ad 42), .int (iz17 43)])) := f19.1
    refine lv_istore_n (lv' := [(2, .int r13), (1, .int (nI ((gm_split cs).1))), (0, .ref y)]) hx hb d_p15m27_18 rfl hl (by decide) rfl (fun ls hl => ?_)
    refine lv_iload_n hx hb d_p15m27_19 rfl (lv_at hl 0 rfl) ?_
    refine lv_iconst (v := -1) hx hb d_p15m27_20 (by decide) ?_
    refine lv_icmp_ne (tgt := 34) hx hb d_p15m27_21 (by decide) (fun q24 => ?_) (fun q24 => ?_)
    · -- taken: 34
      refine lv_aload_n hx hb d_p15m27_34 rfl (lv_at hl 2 rfl) ?_
      refine lv_iconst (v := nI 0) hx hb d_p15m27_35 (by decide) ?_
      refine pd_put (ty := .int) X w hy23 hz_y rfl 3 (by decide) mT_1142 rfl rfl (by decide +kernel) rfl rfl (Nat.le_of_ble_eq_true rfl) d_p15m27_36 (fun H locs w => ?_)
      have w : pd_w G s H locs (pd_up h14 y (20, .inr (10, [.ref (ad 0), .ref (ad 1), .ref (ad 2), .int (nI 0), .int (iz17 4), .int (iz17 5), .ref (ad 6), .ref (ad 7), .ref (ad 8), .ref (ad 9), .ref (ad 10), .ref (ad 11), .int (iz17 12), .ref (ad 13), .ref (ad 14), .ref (ad 15), .ref (ad 16), .ref (ad 17), .ref (ad 18), .ref (ad 19), .int (iz17 20), .ref (ad 21), .ref (ad 22), .ref (ad 23), .ref (ad 24), .ref (ad 25), .ref (ad 26), .ref (ad 27), .ref (ad 28), .int (iz17 29), .ref (ad 30), .ref (ad 31), .int (iz17 32), .int (iz17 33), .int (iz17 34), .int (iz17 35), .long tz18, .int (iz17 37), .int (iz17 38), .int (iz17 39), .int (iz17 40), .ref (ad 41), .ref (ad 42), .int (iz17 43)]))) := w
      obtain ⟨h25, u28⟩ : ∃ z, z = pd_up h14 y (20, .inr (10, [.ref (ad 0), .ref (ad 1), .ref (ad 2), .int (nI 0), .int (iz17 4), .int (iz17 5), .ref (ad 6), .ref (ad 7), .ref (ad 8), .ref (ad 9), .ref (ad 10), .ref (ad 11), .int (iz17 12), .ref (ad 13), .ref (ad 14), .ref (ad 15), .ref (ad 16), .ref (ad 17), .ref (ad 18), .ref (ad 19), .int (iz17 20), .ref (ad 21), .ref (ad 22), .ref (ad 23), .ref (ad 24), .ref (ad 25), .ref (ad 26), .ref (ad 27), .ref (ad 28), .int (iz17 29), .ref (ad 30), .ref (ad 31), .int (iz17 32), .int (iz17 33), .int (iz17 34), .int (iz17 35), .long tz18, .int (iz17 37), .int (iz17 38), .int (iz17 39), .int (iz17 40), .ref (ad 41), .ref (ad 42), .int (iz17 43)])) := ⟨_, rfl⟩
      rw [← u28] at w
      have k26 : pd_kq y h14 h25 := by rw [u28]; exact pd_up_kq
      have f27 : h25 y = some (20, .inr (10, [.ref (ad 0), .ref (ad 1), .ref (ad 2), .int (nI 0), .int (iz17 4), .int (iz17 5), .ref (ad 6), .ref (ad 7), .ref (ad 8), .ref (ad 9), .ref (ad 10), .ref (ad 11), .int (iz17 12), .ref (ad 13), .ref (ad 14), .ref (ad 15), .ref (ad 16), .ref (ad 17), .ref (ad 18), .ref (ad 19), .int (iz17 20), .ref (ad 21), .ref (ad 22), .ref (ad 23), .ref (ad 24), .ref (ad 25), .ref (ad 26), .ref (ad 27), .ref (ad 28), .int (iz17 29), .ref (ad 30), .ref (ad 31), .int (iz17 32), .int (iz17 33), .int (iz17 34), .int (iz17 35), .long tz18, .int (iz17 37), .int (iz17 38), .int (iz17 39), .int (iz17 40), .ref (ad 41), .ref (ad 42), .int (iz17 43)])) := by rw [u28]; exact pd_up_s _ _ _
      refine lv_iload_n hx hb d_p15m27_39 rfl (lv_at hl 0 rfl) ?_
      have mo29 : pd_MO G h25 y ad fz16 (pd_fu iz17 3 (nI 0)) tz18 := pd_MO.of (ts := [20]) f19 (pd_kq.kx (k26) hy23) f27 (fun j hj => Or.inr ⟨fun z => by first | (simp at z; done) | (simp at z; omega), rfl⟩)
      obtain ⟨hr, hR2, hl2, hs2⟩ := gm_Q_n q22 q24
      exact pd_iret (v := r13) X w ⟨(pd_kx.mono (us := pd_wk) (pd_kx.tr (pd_kx.tr (pd_kx.mono (us := [20, 31, 32, 30, 36, 37, 38, 39, 40, 41, 43, 44, 45, 46, 47, 48, 49, 51, 52, 53, 54, 55, 56, 57, 58, 60, 61, 71, 72]) (k4) (by simp)) (pd_kx.mono (us := [20, 31, 32, 30, 36, 37, 38, 39, 40, 41, 43, 44, 45, 46, 47, 48, 49, 51, 52, 53, 54, 55, 56, 57, 58, 60, 61, 71, 72]) (k21x) (by simp))) (pd_kx.mono (us := [20, 31, 32, 30, 36, 37, 38, 39, 40, 41, 43, 44, 45, 46, 47, 48, 49, 51, 52, 53, 54, 55, 56, 57, 58, 60, 61, 71, 72]) (pd_kq.kx (k26) hy23) (by simp))) (by decide)), hr, _, _, _, mo29, by refine ⟨by rw [hl2]; exact gm_L_nil rfl, by rw [hs2]; exact e20.trans hiv5, gm_R_0 hR2 ⟨fun _ _ => rfl, fun j hj => by simp at hj; simp [pd_fu, hj]⟩⟩⟩ (by decide) (by decide) d_p15m27_40
    · -- not taken: 24
      refine lv_aload_n hx hb d_p15m27_24 rfl (lv_at hl 2 rfl) ?_
      refine lv_dup hx hb d_p15m27_25 rfl ?_
      refine pd_get X w hy23 rfl 5 (by decide) mT_1144 rfl rfl d_p15m27_26 ?_
      refine pd_top (v' := .int (nI sn)) (congrArg Value.int (e20.trans hiv5)) ?_
      refine lv_iconst (v := nI 1) hx hb d_p15m27_29 (by decide) ?_
      refine pd_iadd hx hb d_p15m27_30 ?_
      refine pd_put (ty := .int) X w hy23 hz_y rfl 5 (by decide) mT_1144 rfl rfl (by decide +kernel) rfl rfl (Nat.le_of_ble_eq_true rfl) d_p15m27_31 (fun H locs w => ?_)
      have w : pd_w G s H locs (pd_up h14 y (20, .inr (10, [.ref (ad 0), .ref (ad 1), .ref (ad 2), .int (iz17 3), .int (iz17 4), .int (nI (sn + 1)), .ref (ad 6), .ref (ad 7), .ref (ad 8), .ref (ad 9), .ref (ad 10), .ref (ad 11), .int (iz17 12), .ref (ad 13), .ref (ad 14), .ref (ad 15), .ref (ad 16), .ref (ad 17), .ref (ad 18), .ref (ad 19), .int (iz17 20), .ref (ad 21), .ref (ad 22), .ref (ad 23), .ref (ad 24), .ref (ad 25), .ref (ad 26), .ref (ad 27), .ref (ad 28), .int (iz17 29), .ref (ad 30), .ref (ad 31), .int (iz17 32), .int (iz17 33), .int (iz17 34), .int (iz17 35), .long tz18, .int (iz17 37), .int (iz17 38), .int (iz17 39), .int (iz17 40), .ref (ad 41), .ref (ad 42), .int (iz17 43)]))) := w
      obtain ⟨h30, u33⟩ : ∃ z, z = pd_up h14 y (20, .inr (10, [.ref (ad 0), .ref (ad 1), .ref (ad 2), .int (iz17 3), .int (iz17 4), .int (nI (sn + 1)), .ref (ad 6), .ref (ad 7), .ref (ad 8), .ref (ad 9), .ref (ad 10), .ref (ad 11), .int (iz17 12), .ref (ad 13), .ref (ad 14), .ref (ad 15), .ref (ad 16), .ref (ad 17), .ref (ad 18), .ref (ad 19), .int (iz17 20), .ref (ad 21), .ref (ad 22), .ref (ad 23), .ref (ad 24), .ref (ad 25), .ref (ad 26), .ref (ad 27), .ref (ad 28), .int (iz17 29), .ref (ad 30), .ref (ad 31), .int (iz17 32), .int (iz17 33), .int (iz17 34), .int (iz17 35), .long tz18, .int (iz17 37), .int (iz17 38), .int (iz17 39), .int (iz17 40), .ref (ad 41), .ref (ad 42), .int (iz17 43)])) := ⟨_, rfl⟩
      rw [← u33] at w
      have k31 : pd_kq y h14 h30 := by rw [u33]; exact pd_up_kq
      have f32 : h30 y = some (20, .inr (10, [.ref (ad 0), .ref (ad 1), .ref (ad 2), .int (iz17 3), .int (iz17 4), .int (nI (sn + 1)), .ref (ad 6), .ref (ad 7), .ref (ad 8), .ref (ad 9), .ref (ad 10), .ref (ad 11), .int (iz17 12), .ref (ad 13), .ref (ad 14), .ref (ad 15), .ref (ad 16), .ref (ad 17), .ref (ad 18), .ref (ad 19), .int (iz17 20), .ref (ad 21), .ref (ad 22), .ref (ad 23), .ref (ad 24), .ref (ad 25), .ref (ad 26), .ref (ad 27), .ref (ad 28), .int (iz17 29), .ref (ad 30), .ref (ad 31), .int (iz17 32), .int (iz17 33), .int (iz17 34), .int (iz17 35), .long tz18, .int (iz17 37), .int (iz17 38), .int (iz17 39), .int (iz17 40), .ref (ad 41), .ref (ad 42), .int (iz17 43)])) := by rw [u33]; exact pd_up_s _ _ _
      refine lv_aload_n hx hb d_p15m27_34 rfl (lv_at hl 2 rfl) ?_
      refine lv_iconst (v := nI 0) hx hb d_p15m27_35 (by decide) ?_
      refine pd_put (ty := .int) X w f32 hz_y rfl 3 (by decide) mT_1142 rfl rfl (by decide +kernel) rfl rfl (Nat.le_of_ble_eq_true rfl) d_p15m27_36 (fun H locs w => ?_)
      have w : pd_w G s H locs (pd_up h30 y (20, .inr (10, [.ref (ad 0), .ref (ad 1), .ref (ad 2), .int (nI 0), .int (iz17 4), .int (nI (sn + 1)), .ref (ad 6), .ref (ad 7), .ref (ad 8), .ref (ad 9), .ref (ad 10), .ref (ad 11), .int (iz17 12), .ref (ad 13), .ref (ad 14), .ref (ad 15), .ref (ad 16), .ref (ad 17), .ref (ad 18), .ref (ad 19), .int (iz17 20), .ref (ad 21), .ref (ad 22), .ref (ad 23), .ref (ad 24), .ref (ad 25), .ref (ad 26), .ref (ad 27), .ref (ad 28), .int (iz17 29), .ref (ad 30), .ref (ad 31), .int (iz17 32), .int (iz17 33), .int (iz17 34), .int (iz17 35), .long tz18, .int (iz17 37), .int (iz17 38), .int (iz17 39), .int (iz17 40), .ref (ad 41), .ref (ad 42), .int (iz17 43)]))) := w
      obtain ⟨h34, u37⟩ : ∃ z, z = pd_up h30 y (20, .inr (10, [.ref (ad 0), .ref (ad 1), .ref (ad 2), .int (nI 0), .int (iz17 4), .int (nI (sn + 1)), .ref (ad 6), .ref (ad 7), .ref (ad 8), .ref (ad 9), .ref (ad 10), .ref (ad 11), .int (iz17 12), .ref (ad 13), .ref (ad 14), .ref (ad 15), .ref (ad 16), .ref (ad 17), .ref (ad 18), .ref (ad 19), .int (iz17 20), .ref (ad 21), .ref (ad 22), .ref (ad 23), .ref (ad 24), .ref (ad 25), .ref (ad 26), .ref (ad 27), .ref (ad 28), .int (iz17 29), .ref (ad 30), .ref (ad 31), .int (iz17 32), .int (iz17 33), .int (iz17 34), .int (iz17 35), .long tz18, .int (iz17 37), .int (iz17 38), .int (iz17 39), .int (iz17 40), .ref (ad 41), .ref (ad 42), .int (iz17 43)])) := ⟨_, rfl⟩
      rw [← u37] at w
      have k35 : pd_kq y h30 h34 := by rw [u37]; exact pd_up_kq
      have f36 : h34 y = some (20, .inr (10, [.ref (ad 0), .ref (ad 1), .ref (ad 2), .int (nI 0), .int (iz17 4), .int (nI (sn + 1)), .ref (ad 6), .ref (ad 7), .ref (ad 8), .ref (ad 9), .ref (ad 10), .ref (ad 11), .int (iz17 12), .ref (ad 13), .ref (ad 14), .ref (ad 15), .ref (ad 16), .ref (ad 17), .ref (ad 18), .ref (ad 19), .int (iz17 20), .ref (ad 21), .ref (ad 22), .ref (ad 23), .ref (ad 24), .ref (ad 25), .ref (ad 26), .ref (ad 27), .ref (ad 28), .int (iz17 29), .ref (ad 30), .ref (ad 31), .int (iz17 32), .int (iz17 33), .int (iz17 34), .int (iz17 35), .long tz18, .int (iz17 37), .int (iz17 38), .int (iz17 39), .int (iz17 40), .ref (ad 41), .ref (ad 42), .int (iz17 43)])) := by rw [u37]; exact pd_up_s _ _ _
      refine lv_iload_n hx hb d_p15m27_39 rfl (lv_at hl 0 rfl) ?_
      have mo38 : pd_MO G h34 y ad fz16 (pd_fu (pd_fu iz17 3 (nI 0)) 5 (nI (sn + 1))) tz18 := pd_MO.of (ts := [20]) f19 (pd_kx.tr (pd_kq.kx (k31) hy23) (pd_kq.kx (k35) f32)) f36 (fun j hj => Or.inr ⟨fun z => by first | (simp at z; done) | (simp at z; omega), rfl⟩)
      obtain ⟨hg, hR2⟩ := gm_Q_y q22 (fun v hv => gr_do_ne hv hR hI.2.2) q24
      exact pd_iret (v := r13) X w ⟨(pd_kx.mono (us := pd_wk) (pd_kx.tr (pd_kx.tr (pd_kx.tr (pd_kx.mono (us := [20, 31, 32, 30, 36, 37, 38, 39, 40, 41, 43, 44, 45, 46, 47, 48, 49, 51, 52, 53, 54, 55, 56, 57, 58, 60, 61, 71, 72]) (k4) (by simp)) (pd_kx.mono (us := [20, 31, 32, 30, 36, 37, 38, 39, 40, 41, 43, 44, 45, 46, 47, 48, 49, 51, 52, 53, 54, 55, 56, 57, 58, 60, 61, 71, 72]) (k21x) (by simp))) (pd_kx.mono (us := [20, 31, 32, 30, 36, 37, 38, 39, 40, 41, 43, 44, 45, 46, 47, 48, 49, 51, 52, 53, 54, 55, 56, 57, 58, 60, 61, 71, 72]) (pd_kq.kx (k31) hy23) (by simp))) (pd_kx.mono (us := [20, 31, 32, 30, 36, 37, 38, 39, 40, 41, 43, 44, 45, 46, 47, 48, 49, 51, 52, 53, 54, 55, 56, 57, 58, 60, 61, 71, 72]) (pd_kq.kx (k35) f32) (by simp))) (by decide)), by rw [hg]; exact q24, _, _, _, mo38, by rw [hg]; exact ⟨gm_L_nil rfl, rfl, gm_R_0 hR2 ⟨fun _ _ => rfl, fun j hj => by simp at hj; simp [pd_fu, hj]⟩⟩⟩ (by decide) (by decide) d_p15m27_40
  · -- not taken: 9
    have hn0 : (gm_split cs).1 = 0 := e9.symm.trans q12
    refine lv_iconst (v := -1) hx hb d_p15m27_9 (by decide) ?_
    refine lv_goto (tgt := 18) hx hb d_p15m27_10 (by decide) ?_
    refine lv_istore_n (lv' := [(2, .int (-1)), (1, .int (nI r1)), (0, .ref y)]) hx hb d_p15m27_18 rfl hl (by decide) rfl (fun ls hl => ?_)
    refine lv_iload_n hx hb d_p15m27_19 rfl (lv_at hl 0 rfl) ?_
    refine lv_iconst (v := -1) hx hb d_p15m27_20 (by decide) ?_
    refine lv_icmp_ne (tgt := 34) hx hb d_p15m27_21 (by decide) (fun q => absurd rfl q) (fun _ => ?_)
    refine lv_aload_n hx hb d_p15m27_24 rfl (lv_at hl 2 rfl) ?_
    refine lv_dup hx hb d_p15m27_25 rfl ?_
    refine pd_get X w hy11 rfl 5 (by decide) mT_1144 rfl rfl d_p15m27_26 ?_
    refine pd_top (v' := .int (nI sn)) (congrArg Value.int hiv5) ?_
    refine lv_iconst (v := nI 1) hx hb d_p15m27_29 (by decide) ?_
    refine pd_iadd hx hb d_p15m27_30 ?_
    refine pd_put (ty := .int) X w hy11 hz_y rfl 5 (by decide) mT_1144 rfl rfl (by decide +kernel) rfl rfl (Nat.le_of_ble_eq_true rfl) d_p15m27_31 (fun H locs w => ?_)
    have w : pd_w G s H locs (pd_up h2 y (20, .inr (10, [.ref (ad 0), .ref (ad 1), .ref (ad 2), .int (iv 3), .int v7, .int (nI (sn + 1)), .ref (ad 6), .ref (ad 7), .ref (ad 8), .ref (ad 9), .ref (ad 10), .ref (ad 11), .int (iv 12), .ref (ad 13), .ref (ad 14), .ref (ad 15), .ref (ad 16), .ref (ad 17), .ref (ad 18), .ref (ad 19), .int (iv 20), .ref (ad 21), .ref (ad 22), .ref (ad 23), .ref (ad 24), .ref (ad 25), .ref (ad 26), .ref (ad 27), .ref (ad 28), .int (iv 29), .ref (ad 30), .ref (ad 31), .int (iv 32), .int (iv 33), .int (iv 34), .int (iv 35), .long tl, .int (iv 37), .int (iv 38), .int (iv 39), .int (iv 40), .ref (ad 41), .ref (ad 42), .int (iv 43)]))) := w
    obtain ⟨h40, u43⟩ : ∃ z, z = pd_up h2 y (20, .inr (10, [.ref (ad 0), .ref (ad 1), .ref (ad 2), .int (iv 3), .int v7, .int (nI (sn + 1)), .ref (ad 6), .ref (ad 7), .ref (ad 8), .ref (ad 9), .ref (ad 10), .ref (ad 11), .int (iv 12), .ref (ad 13), .ref (ad 14), .ref (ad 15), .ref (ad 16), .ref (ad 17), .ref (ad 18), .ref (ad 19), .int (iv 20), .ref (ad 21), .ref (ad 22), .ref (ad 23), .ref (ad 24), .ref (ad 25), .ref (ad 26), .ref (ad 27), .ref (ad 28), .int (iv 29), .ref (ad 30), .ref (ad 31), .int (iv 32), .int (iv 33), .int (iv 34), .int (iv 35), .long tl, .int (iv 37), .int (iv 38), .int (iv 39), .int (iv 40), .ref (ad 41), .ref (ad 42), .int (iv 43)])) := ⟨_, rfl⟩
    rw [← u43] at w
    have k41 : pd_kq y h2 h40 := by rw [u43]; exact pd_up_kq
    have f42 : h40 y = some (20, .inr (10, [.ref (ad 0), .ref (ad 1), .ref (ad 2), .int (iv 3), .int v7, .int (nI (sn + 1)), .ref (ad 6), .ref (ad 7), .ref (ad 8), .ref (ad 9), .ref (ad 10), .ref (ad 11), .int (iv 12), .ref (ad 13), .ref (ad 14), .ref (ad 15), .ref (ad 16), .ref (ad 17), .ref (ad 18), .ref (ad 19), .int (iv 20), .ref (ad 21), .ref (ad 22), .ref (ad 23), .ref (ad 24), .ref (ad 25), .ref (ad 26), .ref (ad 27), .ref (ad 28), .int (iv 29), .ref (ad 30), .ref (ad 31), .int (iv 32), .int (iv 33), .int (iv 34), .int (iv 35), .long tl, .int (iv 37), .int (iv 38), .int (iv 39), .int (iv 40), .ref (ad 41), .ref (ad 42), .int (iv 43)])) := by rw [u43]; exact pd_up_s _ _ _
    refine lv_aload_n hx hb d_p15m27_34 rfl (lv_at hl 2 rfl) ?_
    refine lv_iconst (v := nI 0) hx hb d_p15m27_35 (by decide) ?_
    refine pd_put (ty := .int) X w f42 hz_y rfl 3 (by decide) mT_1142 rfl rfl (by decide +kernel) rfl rfl (Nat.le_of_ble_eq_true rfl) d_p15m27_36 (fun H locs w => ?_)
    have w : pd_w G s H locs (pd_up h40 y (20, .inr (10, [.ref (ad 0), .ref (ad 1), .ref (ad 2), .int (nI 0), .int v7, .int (nI (sn + 1)), .ref (ad 6), .ref (ad 7), .ref (ad 8), .ref (ad 9), .ref (ad 10), .ref (ad 11), .int (iv 12), .ref (ad 13), .ref (ad 14), .ref (ad 15), .ref (ad 16), .ref (ad 17), .ref (ad 18), .ref (ad 19), .int (iv 20), .ref (ad 21), .ref (ad 22), .ref (ad 23), .ref (ad 24), .ref (ad 25), .ref (ad 26), .ref (ad 27), .ref (ad 28), .int (iv 29), .ref (ad 30), .ref (ad 31), .int (iv 32), .int (iv 33), .int (iv 34), .int (iv 35), .long tl, .int (iv 37), .int (iv 38), .int (iv 39), .int (iv 40), .ref (ad 41), .ref (ad 42), .int (iv 43)]))) := w
    obtain ⟨h44, u47⟩ : ∃ z, z = pd_up h40 y (20, .inr (10, [.ref (ad 0), .ref (ad 1), .ref (ad 2), .int (nI 0), .int v7, .int (nI (sn + 1)), .ref (ad 6), .ref (ad 7), .ref (ad 8), .ref (ad 9), .ref (ad 10), .ref (ad 11), .int (iv 12), .ref (ad 13), .ref (ad 14), .ref (ad 15), .ref (ad 16), .ref (ad 17), .ref (ad 18), .ref (ad 19), .int (iv 20), .ref (ad 21), .ref (ad 22), .ref (ad 23), .ref (ad 24), .ref (ad 25), .ref (ad 26), .ref (ad 27), .ref (ad 28), .int (iv 29), .ref (ad 30), .ref (ad 31), .int (iv 32), .int (iv 33), .int (iv 34), .int (iv 35), .long tl, .int (iv 37), .int (iv 38), .int (iv 39), .int (iv 40), .ref (ad 41), .ref (ad 42), .int (iv 43)])) := ⟨_, rfl⟩
    rw [← u47] at w
    have k45 : pd_kq y h40 h44 := by rw [u47]; exact pd_up_kq
    have f46 : h44 y = some (20, .inr (10, [.ref (ad 0), .ref (ad 1), .ref (ad 2), .int (nI 0), .int v7, .int (nI (sn + 1)), .ref (ad 6), .ref (ad 7), .ref (ad 8), .ref (ad 9), .ref (ad 10), .ref (ad 11), .int (iv 12), .ref (ad 13), .ref (ad 14), .ref (ad 15), .ref (ad 16), .ref (ad 17), .ref (ad 18), .ref (ad 19), .int (iv 20), .ref (ad 21), .ref (ad 22), .ref (ad 23), .ref (ad 24), .ref (ad 25), .ref (ad 26), .ref (ad 27), .ref (ad 28), .int (iv 29), .ref (ad 30), .ref (ad 31), .int (iv 32), .int (iv 33), .int (iv 34), .int (iv 35), .long tl, .int (iv 37), .int (iv 38), .int (iv 39), .int (iv 40), .ref (ad 41), .ref (ad 42), .int (iv 43)])) := by rw [u47]; exact pd_up_s _ _ _
    refine lv_iload_n hx hb d_p15m27_39 rfl (lv_at hl 0 rfl) ?_
    have mo48 : pd_MO G h44 y ad (pd_fu (pd_fu fv 1 f5) 2 f6) (pd_fu (pd_fu (pd_fu iv 4 v7) 3 (nI 0)) 5 (nI (sn + 1))) tl := pd_MO.of (ts := [20]) f8 (pd_kx.tr (pd_kq.kx (k41) hy11) (pd_kq.kx (k45) f42)) f46 (fun j hj => Or.inr ⟨fun z => by first | (simp at z; done) | (simp at z; omega), rfl⟩)
    have hg := gm_line_0 (n := n) (R := R) (k := k) (M := M) (u := u) (U := U) (T := T) (kp := kp) (nx := nx) (sp := sp) (an := an) (gn := gn) (sn := sn) (dn := dn) hn0
    exact pd_iret (v := (-1)) X w ⟨(pd_kx.mono (us := pd_wk) (pd_kx.tr (pd_kx.tr (k4) (pd_kx.mono (us := [20, 31, 32]) (pd_kq.kx (k41) hy11) (by simp))) (pd_kx.mono (us := [20, 31, 32]) (pd_kq.kx (k45) f42) (by simp))) (by decide)), by rw [hg], _, _, _, mo48, by rw [hg]; exact ⟨gm_L_nil rfl, rfl, gm_R_0 hR ⟨fun j hj => by simp at hj; simp [pd_fu, hj], fun j hj => by simp at hj; simp [pd_fu, hj]⟩⟩⟩ (by decide) (by decide) d_p15m27_40
