/-! the reference's state, letters and wrong lines aside; its lines one by one -/
def gm_R (fv : Nat → Nat → Int32) (iv : Nat → Int32) (tl : Int64) (n : Nat) (R : Nat → pd_cr) (k : Nat) (M : Nat → pd_mr) (u : Nat) (U : Nat → pd_rr) (T : Nat → List Nat) (kp nx : Nat) (sp : Int64) (an gn dn : Nat) : Prop := gm_C fv iv n R ∧ gm_M fv iv n k M ∧ gm_U fv iv u U ∧ gm_A fv T ∧ iv 32 = nI an ∧ iv 33 = nI gn ∧ iv 34 = nI dn ∧ tl = sp ∧ kp = min an 12 ∧ nx = an % 12
def gm_RT (fv : Nat → Nat → Int32) (iv : Nat → Int32) (tl : Int64) (z : pd_st) : Prop := gm_R fv iv tl z.2.1.1 z.2.1.2 z.2.2.1.1 z.2.2.1.2 z.2.2.2.1.1 z.2.2.2.1.2 z.2.2.2.2.1.1 z.2.2.2.2.1.2.1 z.2.2.2.2.1.2.2 z.2.2.2.2.2.1 z.2.2.2.2.2.2.1 z.2.2.2.2.2.2.2.1 z.2.2.2.2.2.2.2.2.2
def gm_I (n : Nat) (R : Nat → pd_cr) (k u : Nat) (U : Nat → pd_rr) : Prop := gm_K n R ∧ gm_B n R ∧ gm_V k u U
def pd_wk : List Nat := [20, 30, 31, 32, 36, 37, 38, 39, 40, 41, 43, 44, 45, 46, 47, 48, 49, 51, 52, 53, 54, 55, 56, 57, 58, 60, 61, 71, 72]
/-- what comes of a line of the verb v -/
def gm_P (G : pd_G) (h h1 : pd_H) (y : Nat) (ad : Nat → Nat) (iv : Nat → Int32) (cs : List Nat) (n : Nat) (R : Nat → pd_cr) (k : Nat) (M : Nat → pd_mr) (u : Nat) (U : Nat → pd_rr) (T : Nat → List Nat) (kp nx : Nat) (sp : Int64) (an gn sn dn : Nat) (v : Nat) (r : Int32) : Prop := ∃ (fv2 : Nat → Nat → Int32) (iv2 : Nat → Int32) (tl2 : Int64), pd_MO G h1 y ad fv2 iv2 tl2 ∧ iv2 5 = iv 5 ∧ pd_kx pd_wk h h1 ∧ ((gr_said cs v = false ∧ r = -1 ∧ gm_R fv2 iv2 tl2 n R k M u U T kp nx sp an gn dn) ∨ (gr_said cs v = true ∧ r = (gr_do cs n R k M u U T kp nx sp an gn sn dn v).1 ∧ gm_RT fv2 iv2 tl2 (gr_do cs n R k M u U T kp nx sp an gn sn dn v).2))
theorem gm_fr.f {A B : List Nat} {fv fv2 : Nat → Nat → Int32} {iv iv2 : Nat → Int32} (q : gm_fr A B fv iv fv2 iv2) {j : Nat} (h : decide (j ∈ A) = false) : fv2 j = fv j := q.1 j (of_decide_eq_false h)
theorem gm_fr.i {A B : List Nat} {fv fv2 : Nat → Nat → Int32} {iv iv2 : Nat → Int32} (q : gm_fr A B fv iv fv2 iv2) {j : Nat} (h : decide (j ∈ B) = false) : iv2 j = iv j := q.2 j (of_decide_eq_false h)
theorem gm_C_fr {A B : List Nat} {fv fv2 : Nat → Nat → Int32} {iv iv2 : Nat → Int32} {n : Nat} {R : Nat → pd_cr} (q : gm_fr A B fv iv fv2 iv2) (hC : gm_C fv iv n R) (ha : ([6, 7, 8, 9, 10, 11] : List Nat).all (fun j => decide (j ∈ A) == false) = true) (hb : ([12] : List Nat).all (fun j => decide (j ∈ B) == false) = true) : gm_C fv2 iv2 n R := by
  have fa : ∀ j ∈ ([6, 7, 8, 9, 10, 11] : List Nat), fv2 j = fv j := fun j hj => q.f (eq_of_beq (List.all_eq_true.mp ha j hj))
  have fb : ∀ j ∈ ([12] : List Nat), iv2 j = iv j := fun j hj => q.i (eq_of_beq (List.all_eq_true.mp hb j hj))
  unfold gm_C at *
  simp only [fa 6 (by decide), fa 7 (by decide), fa 8 (by decide), fa 9 (by decide), fa 10 (by decide), fa 11 (by decide), fb 12 (by decide)]
  exact hC
theorem gm_M_fr {A B : List Nat} {fv fv2 : Nat → Nat → Int32} {iv iv2 : Nat → Int32} {n k : Nat} {M : Nat → pd_mr} (q : gm_fr A B fv iv fv2 iv2) {n2 : Nat} (hn2 : n ≤ n2) (hC : gm_M fv iv n k M) (ha : ([13, 14, 15, 16, 17, 18, 19] : List Nat).all (fun j => decide (j ∈ A) == false) = true) (hb : ([20] : List Nat).all (fun j => decide (j ∈ B) == false) = true) : gm_M fv2 iv2 n2 k M := by
  have fa : ∀ j ∈ ([13, 14, 15, 16, 17, 18, 19] : List Nat), fv2 j = fv j := fun j hj => q.f (eq_of_beq (List.all_eq_true.mp ha j hj))
  have fb : ∀ j ∈ ([20] : List Nat), iv2 j = iv j := fun j hj => q.i (eq_of_beq (List.all_eq_true.mp hb j hj))
  unfold gm_M at *
  simp only [fa 13 (by decide), fa 14 (by decide), fa 15 (by decide), fa 16 (by decide), fa 17 (by decide), fa 18 (by decide), fa 19 (by decide), fb 20 (by decide)]
  exact ⟨hC.1, hC.2.1, fun j hj => by obtain ⟨r1, r2, r3⟩ := hC.2.2 j hj; exact ⟨r1, by omega, r3⟩⟩
theorem gm_U_fr {A B : List Nat} {fv fv2 : Nat → Nat → Int32} {iv iv2 : Nat → Int32} {u : Nat} {U : Nat → pd_rr} (q : gm_fr A B fv iv fv2 iv2) (hC : gm_U fv iv u U) (ha : ([21, 22, 23, 24, 25, 26, 27, 28] : List Nat).all (fun j => decide (j ∈ A) == false) = true) (hb : ([29] : List Nat).all (fun j => decide (j ∈ B) == false) = true) : gm_U fv2 iv2 u U := by
  have fa : ∀ j ∈ ([21, 22, 23, 24, 25, 26, 27, 28] : List Nat), fv2 j = fv j := fun j hj => q.f (eq_of_beq (List.all_eq_true.mp ha j hj))
  have fb : ∀ j ∈ ([29] : List Nat), iv2 j = iv j := fun j hj => q.i (eq_of_beq (List.all_eq_true.mp hb j hj))
  unfold gm_U at *
  simp only [fa 21 (by decide), fa 22 (by decide), fa 23 (by decide), fa 24 (by decide), fa 25 (by decide), fa 26 (by decide), fa 27 (by decide), fa 28 (by decide), fb 29 (by decide)]
  exact hC
theorem gm_A_fr {A B : List Nat} {fv fv2 : Nat → Nat → Int32} {iv iv2 : Nat → Int32} {T : Nat → List Nat} (q : gm_fr A B fv iv fv2 iv2) (hC : gm_A fv T) (ha : ([30, 31] : List Nat).all (fun j => decide (j ∈ A) == false) = true) : gm_A fv2 T := by
  have fa : ∀ j ∈ ([30, 31] : List Nat), fv2 j = fv j := fun j hj => q.f (eq_of_beq (List.all_eq_true.mp ha j hj))
  unfold gm_A at *
  simp only [fa 30 (by decide), fa 31 (by decide)]
  exact hC
theorem gm_R_C {fv fv2 : Nat → Nat → Int32} {iv iv2 : Nat → Int32} {tl : Int64} {n : Nat} {R : Nat → pd_cr} {k : Nat} {M : Nat → pd_mr} {u : Nat} {U : Nat → pd_rr} {T : Nat → List Nat} {kp nx : Nat} {sp : Int64} {an gn dn : Nat} {n2 : Nat} {R2 : Nat → pd_cr} (hR : gm_R fv iv tl n R k M u U T kp nx sp an gn dn) (q : gm_fr [6, 7, 8, 9, 10, 11] [12] fv iv fv2 iv2) (hn : n ≤ n2) (hc : gm_C fv2 iv2 n2 R2) : gm_R fv2 iv2 tl n2 R2 k M u U T kp nx sp an gn dn := ⟨hc, gm_M_fr q hn hR.2.1 rfl rfl, gm_U_fr q hR.2.2.1 rfl rfl, gm_A_fr q hR.2.2.2.1 rfl, (q.i rfl).trans hR.2.2.2.2.1, (q.i rfl).trans hR.2.2.2.2.2.1, (q.i rfl).trans hR.2.2.2.2.2.2.1, hR.2.2.2.2.2.2.2⟩
theorem gm_R_M {fv fv2 : Nat → Nat → Int32} {iv iv2 : Nat → Int32} {tl : Int64} {n : Nat} {R : Nat → pd_cr} {k : Nat} {M : Nat → pd_mr} {u : Nat} {U : Nat → pd_rr} {T : Nat → List Nat} {kp nx : Nat} {sp : Int64} {an gn dn : Nat} {k2 : Nat} {M2 : Nat → pd_mr} (hR : gm_R fv iv tl n R k M u U T kp nx sp an gn dn) (q : gm_fr [13, 14, 15, 16, 17, 18, 19] [20, 38, 40] fv iv fv2 iv2) (hc : gm_M fv2 iv2 n k2 M2) : gm_R fv2 iv2 tl n R k2 M2 u U T kp nx sp an gn dn := ⟨gm_C_fr q hR.1 rfl rfl, hc, gm_U_fr q hR.2.2.1 rfl rfl, gm_A_fr q hR.2.2.2.1 rfl, (q.i rfl).trans hR.2.2.2.2.1, (q.i rfl).trans hR.2.2.2.2.2.1, (q.i rfl).trans hR.2.2.2.2.2.2.1, hR.2.2.2.2.2.2.2⟩
theorem gm_R_U {fv fv2 : Nat → Nat → Int32} {iv iv2 : Nat → Int32} {tl : Int64} {n : Nat} {R : Nat → pd_cr} {k : Nat} {M : Nat → pd_mr} {u : Nat} {U : Nat → pd_rr} {T : Nat → List Nat} {kp nx : Nat} {sp : Int64} {an gn dn : Nat} {u2 : Nat} {U2 : Nat → pd_rr} (hR : gm_R fv iv tl n R k M u U T kp nx sp an gn dn) (q : gm_fr [21, 22, 23, 24, 25, 26, 27, 28] [29, 37, 38, 39, 40] fv iv fv2 iv2) (hc : gm_U fv2 iv2 u2 U2) : gm_R fv2 iv2 tl n R k M u2 U2 T kp nx sp an gn dn := ⟨gm_C_fr q hR.1 rfl rfl, gm_M_fr q (Nat.le_refl _) hR.2.1 rfl rfl, hc, gm_A_fr q hR.2.2.2.1 rfl, (q.i rfl).trans hR.2.2.2.2.1, (q.i rfl).trans hR.2.2.2.2.2.1, (q.i rfl).trans hR.2.2.2.2.2.2.1, hR.2.2.2.2.2.2.2⟩
theorem gm_R_0 {fv fv2 : Nat → Nat → Int32} {iv iv2 : Nat → Int32} {tl : Int64} {n : Nat} {R : Nat → pd_cr} {k : Nat} {M : Nat → pd_mr} {u : Nat} {U : Nat → pd_rr} {T : Nat → List Nat} {kp nx : Nat} {sp : Int64} {an gn dn : Nat} (hR : gm_R fv iv tl n R k M u U T kp nx sp an gn dn) (q : gm_fr [0, 1, 2, 41, 42] [3, 4, 5, 37, 38, 39, 40, 43] fv iv fv2 iv2) : gm_R fv2 iv2 tl n R k M u U T kp nx sp an gn dn := ⟨gm_C_fr q hR.1 rfl rfl, gm_M_fr q (Nat.le_refl _) hR.2.1 rfl rfl, gm_U_fr q hR.2.2.1 rfl rfl, gm_A_fr q hR.2.2.2.1 rfl, (q.i rfl).trans hR.2.2.2.2.1, (q.i rfl).trans hR.2.2.2.2.2.1, (q.i rfl).trans hR.2.2.2.2.2.2.1, hR.2.2.2.2.2.2.2⟩
theorem gm_R_A {fv fv2 : Nat → Nat → Int32} {iv iv2 : Nat → Int32} {tl tl2 : Int64} {n : Nat} {R : Nat → pd_cr} {k : Nat} {M : Nat → pd_mr} {u : Nat} {U : Nat → pd_rr} {T : Nat → List Nat} {kp nx : Nat} {sp : Int64} {an gn dn : Nat} {T2 : Nat → List Nat} {gn2 dn2 : Nat} (hR : gm_R fv iv tl n R k M u U T kp nx sp an gn dn) (q : gm_fr [30, 31, 41, 42] [32, 33, 34, 35, 38, 40, 43] fv iv fv2 iv2) (h32 : iv2 32 = nI (an + 1)) (h33 : iv2 33 = nI gn2) (h34 : iv2 34 = nI dn2) (hc : gm_A fv2 T2) : gm_R fv2 iv2 tl2 n R k M u U T2 (min (kp + 1) 12) ((nx + 1) % 12) tl2 (an + 1) gn2 dn2 := ⟨gm_C_fr q hR.1 rfl rfl, gm_M_fr q (Nat.le_refl _) hR.2.1 rfl rfl, gm_U_fr q hR.2.2.1 rfl rfl, hc, h32, h33, h34, rfl, by have z := hR.2.2.2.2.2.2.2.2.1; omega, by have z := hR.2.2.2.2.2.2.2.2.2; omega⟩
theorem gr_do_0 {cs : List Nat} {n : Nat} {R : Nat → pd_cr} {k : Nat} {M : Nat → pd_mr} {u : Nat} {U : Nat → pd_rr} {T : Nat → List Nat} {kp nx : Nat} {sp : Int64} {an gn sn dn : Nat} : gr_do cs n R k M u U T kp nx sp an gn sn dn 0 = ((gr_dc n R cs false 4).1, [], ((gr_dc n R cs false 4).2.1, (gr_dc n R cs false 4).2.2), (k, M), (u, U), (T, kp, nx), sp, an, gn, sn, dn) := rfl
theorem gr_do_1 {cs : List Nat} {n : Nat} {R : Nat → pd_cr} {k : Nat} {M : Nat → pd_mr} {u : Nat} {U : Nat → pd_rr} {T : Nat → List Nat} {kp nx : Nat} {sp : Int64} {an gn sn dn : Nat} : gr_do cs n R k M u U T kp nx sp an gn sn dn 1 = ((gr_dc n R cs true 3).1, [], ((gr_dc n R cs true 3).2.1, (gr_dc n R cs true 3).2.2), (k, M), (u, U), (T, kp, nx), sp, an, gn, sn, dn) := rfl
theorem gr_do_2 {cs : List Nat} {n : Nat} {R : Nat → pd_cr} {k : Nat} {M : Nat → pd_mr} {u : Nat} {U : Nat → pd_rr} {T : Nat → List Nat} {kp nx : Nat} {sp : Int64} {an gn sn dn : Nat} : gr_do cs n R k M u U T kp nx sp an gn sn dn 2 = ((gr_dm n R k M cs).1, [], (n, R), ((gr_dm n R k M cs).2.1, (gr_dm n R k M cs).2.2), (u, U), (T, kp, nx), sp, an, gn, sn, dn) := rfl
theorem gr_do_3 {cs : List Nat} {n : Nat} {R : Nat → pd_cr} {k : Nat} {M : Nat → pd_mr} {u : Nat} {U : Nat → pd_rr} {T : Nat → List Nat} {kp nx : Nat} {sp : Int64} {an gn sn dn : Nat} : gr_do cs n R k M u U T kp nx sp an gn sn dn 3 = ((gr_dm n R k M cs).1, [], (n, R), ((gr_dm n R k M cs).2.1, (gr_dm n R k M cs).2.2), (u, U), (T, kp, nx), sp, an, gn, sn, dn) := rfl
theorem gr_do_4 {cs : List Nat} {n : Nat} {R : Nat → pd_cr} {k : Nat} {M : Nat → pd_mr} {u : Nat} {U : Nat → pd_rr} {T : Nat → List Nat} {kp nx : Nat} {sp : Int64} {an gn sn dn : Nat} : gr_do cs n R k M u U T kp nx sp an gn sn dn 4 = ((gr_radd u U (4, gr_w cs 1, 0, none)).1, [], (n, R), (k, M), ((gr_radd u U (4, gr_w cs 1, 0, none)).2.1, (gr_radd u U (4, gr_w cs 1, 0, none)).2.2), (T, kp, nx), sp, an, gn, sn, dn) := rfl
theorem gr_do_5 {cs : List Nat} {n : Nat} {R : Nat → pd_cr} {k : Nat} {M : Nat → pd_mr} {u : Nat} {U : Nat → pd_rr} {T : Nat → List Nat} {kp nx : Nat} {sp : Int64} {an gn sn dn : Nat} : gr_do cs n R k M u U T kp nx sp an gn sn dn 5 = ((gr_radd u U (5, gr_w cs 1, 0, none)).1, [], (n, R), (k, M), ((gr_radd u U (5, gr_w cs 1, 0, none)).2.1, (gr_radd u U (5, gr_w cs 1, 0, none)).2.2), (T, kp, nx), sp, an, gn, sn, dn) := rfl
theorem gr_do_6 {cs : List Nat} {n : Nat} {R : Nat → pd_cr} {k : Nat} {M : Nat → pd_mr} {u : Nat} {U : Nat → pd_rr} {T : Nat → List Nat} {kp nx : Nat} {sp : Int64} {an gn sn dn : Nat} : gr_do cs n R k M u U T kp nx sp an gn sn dn 6 = ((gr_radd u U (6, gr_w cs 1, gr_num (gr_w cs 2), none)).1, [], (n, R), (k, M), ((gr_radd u U (6, gr_w cs 1, gr_num (gr_w cs 2), none)).2.1, (gr_radd u U (6, gr_w cs 1, gr_num (gr_w cs 2), none)).2.2), (T, kp, nx), sp, an, gn, sn, dn) := rfl
theorem gr_do_7 {cs : List Nat} {n : Nat} {R : Nat → pd_cr} {k : Nat} {M : Nat → pd_mr} {u : Nat} {U : Nat → pd_rr} {T : Nat → List Nat} {kp nx : Nat} {sp : Int64} {an gn sn dn : Nat} : gr_do cs n R k M u U T kp nx sp an gn sn dn 7 = ((gr_dr n R k M u U cs 7).1, [], (n, R), (k, M), ((gr_dr n R k M u U cs 7).2.1, (gr_dr n R k M u U cs 7).2.2), (T, kp, nx), sp, an, gn, sn, dn) := rfl
theorem gr_do_8 {cs : List Nat} {n : Nat} {R : Nat → pd_cr} {k : Nat} {M : Nat → pd_mr} {u : Nat} {U : Nat → pd_rr} {T : Nat → List Nat} {kp nx : Nat} {sp : Int64} {an gn sn dn : Nat} : gr_do cs n R k M u U T kp nx sp an gn sn dn 8 = ((gr_jc n R M u U cs 8).1, [], (n, R), (k, M), (u, U), (pd_fu T nx (gr_atx an cs (gr_jc n R M u U cs 8).1), min (kp + 1) 12, (nx + 1) % 12), gr_pay sp (gr_jc n R M u U cs 8).1, an + 1, gr_gn gn (gr_jc n R M u U cs 8).1, sn, dn + (gr_jc n R M u U cs 8).2) := rfl
theorem gr_do_9 {cs : List Nat} {n : Nat} {R : Nat → pd_cr} {k : Nat} {M : Nat → pd_mr} {u : Nat} {U : Nat → pd_rr} {T : Nat → List Nat} {kp nx : Nat} {sp : Int64} {an gn sn dn : Nat} : gr_do cs n R k M u U T kp nx sp an gn sn dn 9 = ((gr_jc n R M u U cs 9).1, [], (n, R), (k, M), (u, U), (pd_fu T nx (gr_atx an cs (gr_jc n R M u U cs 9).1), min (kp + 1) 12, (nx + 1) % 12), gr_pay sp (gr_jc n R M u U cs 9).1, an + 1, gr_gn gn (gr_jc n R M u U cs 9).1, sn, dn + (gr_jc n R M u U cs 9).2) := rfl
theorem gr_do_10 {cs : List Nat} {n : Nat} {R : Nat → pd_cr} {k : Nat} {M : Nat → pd_mr} {u : Nat} {U : Nat → pd_rr} {T : Nat → List Nat} {kp nx : Nat} {sp : Int64} {an gn sn dn : Nat} : gr_do cs n R k M u U T kp nx sp an gn sn dn 10 = ((gr_jc n R M u U cs 10).1, [], (n, R), (k, M), (u, U), (pd_fu T nx (gr_atx an cs (gr_jc n R M u U cs 10).1), min (kp + 1) 12, (nx + 1) % 12), gr_pay sp (gr_jc n R M u U cs 10).1, an + 1, gr_gn gn (gr_jc n R M u U cs 10).1, sn, dn + (gr_jc n R M u U cs 10).2) := rfl
theorem gr_do_11 {cs : List Nat} {n : Nat} {R : Nat → pd_cr} {k : Nat} {M : Nat → pd_mr} {u : Nat} {U : Nat → pd_rr} {T : Nat → List Nat} {kp nx : Nat} {sp : Int64} {an gn sn dn : Nat} : gr_do cs n R k M u U T kp nx sp an gn sn dn 11 = ((gr_jm n R k M u U cs 11).1, [], (n, R), (k, M), (u, U), (pd_fu T nx (gr_atx an cs (gr_jm n R k M u U cs 11).1), min (kp + 1) 12, (nx + 1) % 12), gr_pay sp (gr_jm n R k M u U cs 11).1, an + 1, gr_gn gn (gr_jm n R k M u U cs 11).1, sn, dn + (gr_jm n R k M u U cs 11).2) := rfl
theorem gr_do_12 {cs : List Nat} {n : Nat} {R : Nat → pd_cr} {k : Nat} {M : Nat → pd_mr} {u : Nat} {U : Nat → pd_rr} {T : Nat → List Nat} {kp nx : Nat} {sp : Int64} {an gn sn dn : Nat} : gr_do cs n R k M u U T kp nx sp an gn sn dn 12 = ((gr_jm n R k M u U cs 12).1, [], (n, R), (k, M), (u, U), (pd_fu T nx (gr_atx an cs (gr_jm n R k M u U cs 12).1), min (kp + 1) 12, (nx + 1) % 12), gr_pay sp (gr_jm n R k M u U cs 12).1, an + 1, gr_gn gn (gr_jm n R k M u U cs 12).1, sn, dn + (gr_jm n R k M u U cs 12).2) := rfl
theorem gm_P_no {G : pd_G} {h : pd_H} {cs : List Nat} {y : Nat} {ad : Nat → Nat} {fv : Nat → Nat → Int32} {iv : Nat → Int32} {tl : Int64} {n : Nat} {R : Nat → pd_cr} {k : Nat} {M : Nat → pd_mr} {u : Nat} {U : Nat → pd_rr} {T : Nat → List Nat} {kp nx : Nat} {sp : Int64} {an gn sn dn : Nat} {v : Nat} (hMO : pd_MO G h y ad fv iv tl) (hR : gm_R fv iv tl n R k M u U T kp nx sp an gn dn) (hs : gr_said cs v = false) : gm_P G h h y ad iv cs n R k M u U T kp nx sp an gn sn dn v (-1) := ⟨fv, iv, tl, hMO, rfl, pd_kx.rf, Or.inl ⟨hs, rfl, hR⟩⟩
theorem gr_sd_no {b : Bool} {P : Prop} (q : b = true ↔ P) (h : ¬ P) : b = false := by
  cases b
  · rfl
  · exact absurd (q.mp rfl) h
theorem gr_dc_le {n : Nat} {R : Nat → pd_cr} {cs : List Nat} {bi : Bool} {ff : Nat} : n ≤ (gr_dc n R cs bi ff).2.1 := by
  unfold gr_dc
  split
  · exact Nat.le_refl _
  · exact gr_cadd_le
theorem c_W_0 (l : Launch) (G : pd_G) (h : pd_H) {y : Nat} {ad : Nat → Nat} {fv : Nat → Nat → Int32} {iv : Nat → Int32} {tl : Int64} {cs : List Nat} {n : Nat} {R : Nat → pd_cr} {k : Nat} {M : Nat → pd_mr} {u : Nat} {U : Nat → pd_rr} {T : Nat → List Nat} {kp nx : Nat} {sp : Int64} {an gn sn dn : Nat} (hMO : pd_MO G h y ad fv iv tl) (hL : gm_L fv iv cs) (hR : gm_R fv iv tl n R k M u U T kp nx sp an gn dn) (hI : gm_I n R k u U) (hW : gm_W fv cs (gm_split cs).1 (gm_split cs).2.1 (gm_split cs).2.2) (han : an < 1000) : pd_M l y_Mod_declareC prog_15_method_30_code 8 (some .int) rm_Mod_declareC G h [.ref y, .int (nI (gm_split cs).1), .int (nI 0)] Value.int (fun r h1 => gm_P G h h1 y ad iv cs n R k M u U T kp nx sp an gn sn dn 0 r) := by
  have hb := hW.ok
  refine pd_M.mono (fun r h1 hp => ?_) (c_Mod_declareC l G h hMO hL hR.1 hW gm_split_n (fun a t b => gm_split_w a b) (fun a b z => by rw [gm_w_y a (by omega), gm_name_eq (hb 1 (by omega)).1 (hb 1 (by omega)).2]; exact decide_eq_true z))
  have sd : gr_said cs 0 = true ↔ ((2 ≤ (gm_split cs).1 ∧ ¬ (gm_split cs).1 = 3 ∧ (gm_split cs).1 ≤ 6) ∧ gm_name cs ((gm_split cs).2.1 1) ((gm_split cs).2.2 1) = (gm_split cs).2.2 1 ∧ (3 < (gm_split cs).1 → (gm_split cs).2.2 2 - (gm_split cs).2.1 2 = 1 ∧ cs.getD ((gm_split cs).2.1 2) 0 = 58) ∧ ∀ t, 3 ≤ t → t < (gm_split cs).1 → gm_name cs ((gm_split cs).2.1 t) ((gm_split cs).2.2 t) = (gm_split cs).2.2 t) := gm_head_iff (k := 6) hb (by decide)
  rcases hp with ⟨hno, hr, rfl⟩ | ⟨hc, hr, hk, fv2, iv2, m2, q, c2⟩
  · rw [hr]
    exact gm_P_no hMO hR (gr_sd_no sd hno)
  · exact ⟨fv2, iv2, tl, m2, q.i rfl, (hk.mono (by decide)), Or.inr ⟨sd.mpr hc, hr, gm_R_C hR q gr_dc_le c2⟩⟩
theorem c_W_1 (l : Launch) (G : pd_G) (h : pd_H) {y : Nat} {ad : Nat → Nat} {fv : Nat → Nat → Int32} {iv : Nat → Int32} {tl : Int64} {cs : List Nat} {n : Nat} {R : Nat → pd_cr} {k : Nat} {M : Nat → pd_mr} {u : Nat} {U : Nat → pd_rr} {T : Nat → List Nat} {kp nx : Nat} {sp : Int64} {an gn sn dn : Nat} (hMO : pd_MO G h y ad fv iv tl) (hL : gm_L fv iv cs) (hR : gm_R fv iv tl n R k M u U T kp nx sp an gn dn) (hI : gm_I n R k u U) (hW : gm_W fv cs (gm_split cs).1 (gm_split cs).2.1 (gm_split cs).2.2) (han : an < 1000) : pd_M l y_Mod_declareI prog_15_method_30_code 8 (some .int) rm_Mod_declareI G h [.ref y, .int (nI (gm_split cs).1), .int (nI 1)] Value.int (fun r h1 => gm_P G h h1 y ad iv cs n R k M u U T kp nx sp an gn sn dn 1 r) := by
  have hb := hW.ok
  refine pd_M.mono (fun r h1 hp => ?_) (c_Mod_declareI l G h hMO hL hR.1 hW gm_split_n (fun a t b => gm_split_w a b) (fun a b z => by rw [gm_w_y a (by omega), gm_name_eq (hb 1 (by omega)).1 (hb 1 (by omega)).2]; exact decide_eq_true z))
  have sd : gr_said cs 1 = true ↔ ((2 ≤ (gm_split cs).1 ∧ ¬ (gm_split cs).1 = 3 ∧ (gm_split cs).1 ≤ 5) ∧ gm_name cs ((gm_split cs).2.1 1) ((gm_split cs).2.2 1) = (gm_split cs).2.2 1 ∧ (3 < (gm_split cs).1 → (gm_split cs).2.2 2 - (gm_split cs).2.1 2 = 1 ∧ cs.getD ((gm_split cs).2.1 2) 0 = 58) ∧ ∀ t, 3 ≤ t → t < (gm_split cs).1 → gm_name cs ((gm_split cs).2.1 t) ((gm_split cs).2.2 t) = (gm_split cs).2.2 t) := gm_head_iff (k := 5) hb (by decide)
  rcases hp with ⟨hno, hr, rfl⟩ | ⟨hc, hr, hk, fv2, iv2, m2, q, c2⟩
  · rw [hr]
    exact gm_P_no hMO hR (gr_sd_no sd hno)
  · exact ⟨fv2, iv2, tl, m2, q.i rfl, (hk.mono (by decide)), Or.inr ⟨sd.mpr hc, hr, gm_R_C hR q gr_dc_le c2⟩⟩
theorem c_W_2 (l : Launch) (G : pd_G) (h : pd_H) {y : Nat} {ad : Nat → Nat} {fv : Nat → Nat → Int32} {iv : Nat → Int32} {tl : Int64} {cs : List Nat} {n : Nat} {R : Nat → pd_cr} {k : Nat} {M : Nat → pd_mr} {u : Nat} {U : Nat → pd_rr} {T : Nat → List Nat} {kp nx : Nat} {sp : Int64} {an gn sn dn : Nat} (hMO : pd_MO G h y ad fv iv tl) (hL : gm_L fv iv cs) (hR : gm_R fv iv tl n R k M u U T kp nx sp an gn dn) (hI : gm_I n R k u U) (hW : gm_W fv cs (gm_split cs).1 (gm_split cs).2.1 (gm_split cs).2.2) (han : an < 1000) : pd_M l y_Mod_addF prog_15_method_31_code 9 (some .int) rm_Mod_addF G h [.ref y, .int (nI (gm_split cs).1), .int (nI 0)] Value.int (fun r h1 => gm_P G h h1 y ad iv cs n R k M u U T kp nx sp an gn sn dn 2 r) := by
  have hb := hW.ok
  have sd := gm_sy_2 hb
  by_cases h34 : 3 ≤ (gm_split cs).1 ∧ (gm_split cs).1 ≤ 4
  · refine pd_M.mono (fun r h1 hp => ?_) (c_Mod_addF l G h hMO hL hR.1 hR.2.1 hW (gm_split_w (by omega) (by omega)) (fun z => by rw [gm_w_y (by omega) (by omega)]; exact gm_mem_bda (hb 1 (by omega)).1 (hb 1 (by omega)).2 z) (fun z => by rw [gm_w_y (by omega) (by omega)]; exact gm_ism_t (hb 2 (by omega)).1 (hb 2 (by omega)).2 z) (fun t z => gm_gmk hb h34 t z))
    rcases hp with ⟨hno, hr, hk, fv2, iv2, m2, q, c2⟩ | ⟨hc, hr, hk, fv2, iv2, m2, q, c2⟩
    · exact ⟨fv2, iv2, tl, m2, q.i rfl, (hk.mono (by decide)), Or.inl ⟨gr_sd_no sd hno, hr, gm_R_M hR q c2⟩⟩
    · exact ⟨fv2, iv2, tl, m2, q.i rfl, (hk.mono (by decide)), Or.inr ⟨sd.mpr hc, hr, gm_R_M hR q c2⟩⟩
  · refine pd_M.mono (fun r h1 hp => ?_) (c_Mod_addFN l G h hMO hW.1 h34)
    obtain ⟨hr, rfl⟩ := hp
    rw [hr]
    exact gm_P_no hMO hR (gr_sd_no sd (fun z => h34 z.1))
theorem c_W_3 (l : Launch) (G : pd_G) (h : pd_H) {y : Nat} {ad : Nat → Nat} {fv : Nat → Nat → Int32} {iv : Nat → Int32} {tl : Int64} {cs : List Nat} {n : Nat} {R : Nat → pd_cr} {k : Nat} {M : Nat → pd_mr} {u : Nat} {U : Nat → pd_rr} {T : Nat → List Nat} {kp nx : Nat} {sp : Int64} {an gn sn dn : Nat} (hMO : pd_MO G h y ad fv iv tl) (hL : gm_L fv iv cs) (hR : gm_R fv iv tl n R k M u U T kp nx sp an gn dn) (hI : gm_I n R k u U) (hW : gm_W fv cs (gm_split cs).1 (gm_split cs).2.1 (gm_split cs).2.2) (han : an < 1000) : pd_M l y_Mod_addM prog_15_method_31_code 9 (some .int) rm_Mod_addM G h [.ref y, .int (nI (gm_split cs).1), .int (nI 1)] Value.int (fun r h1 => gm_P G h h1 y ad iv cs n R k M u U T kp nx sp an gn sn dn 3 r) := by
  have hb := hW.ok
  have sd := gm_sy_3 hb
  by_cases h34 : 3 ≤ (gm_split cs).1 ∧ (gm_split cs).1 ≤ 4
  · refine pd_M.mono (fun r h1 hp => ?_) (c_Mod_addM l G h hMO hL hR.1 hR.2.1 hW (gm_split_w (by omega) (by omega)) (fun z => by rw [gm_w_y (by omega) (by omega)]; exact gm_mem_bda (hb 1 (by omega)).1 (hb 1 (by omega)).2 z) (fun z => by rw [gm_w_y (by omega) (by omega)]; exact gm_ism_s (hb 2 (by omega)).1 (hb 2 (by omega)).2 z) (fun t z => gm_gmk hb h34 t z) (fun z z1 z2 => by rw [gm_w_y (by omega) (by omega)]; exact gm_sv (hb 2 (by omega)).2 z z1 z2))
    rcases hp with ⟨hno, hr, hk, fv2, iv2, m2, q, c2⟩ | ⟨hc, hr, hk, fv2, iv2, m2, q, c2⟩
    · exact ⟨fv2, iv2, tl, m2, q.i rfl, (hk.mono (by decide)), Or.inl ⟨gr_sd_no sd hno, hr, gm_R_M hR q c2⟩⟩
    · exact ⟨fv2, iv2, tl, m2, q.i rfl, (hk.mono (by decide)), Or.inr ⟨sd.mpr hc, hr, gm_R_M hR q c2⟩⟩
  · refine pd_M.mono (fun r h1 hp => ?_) (c_Mod_addMN l G h hMO hW.1 h34)
    obtain ⟨hr, rfl⟩ := hp
    rw [hr]
    exact gm_P_no hMO hR (gr_sd_no sd (fun z => h34 z.1))
theorem c_W_4 (l : Launch) (G : pd_G) (h : pd_H) {y : Nat} {ad : Nat → Nat} {fv : Nat → Nat → Int32} {iv : Nat → Int32} {tl : Int64} {cs : List Nat} {n : Nat} {R : Nat → pd_cr} {k : Nat} {M : Nat → pd_mr} {u : Nat} {U : Nat → pd_rr} {T : Nat → List Nat} {kp nx : Nat} {sp : Int64} {an gn sn dn : Nat} (hMO : pd_MO G h y ad fv iv tl) (hL : gm_L fv iv cs) (hR : gm_R fv iv tl n R k M u U T kp nx sp an gn dn) (hI : gm_I n R k u U) (hW : gm_W fv cs (gm_split cs).1 (gm_split cs).2.1 (gm_split cs).2.2) (han : an < 1000) (hnw : (gm_split cs).1 = 2) : pd_M l y_Mod_rule prog_15_method_33_code 5 (some .int) rm_Mod_rule G h [.ref y, .int (nI 0), .int (nI 0)] Value.int (fun r h1 => gm_P G h h1 y ad iv cs n R k M u U T kp nx sp an gn sn dn 4 r) := by
  have hb := hW.ok
  have sd := gm_sy_4 hb hnw
  refine pd_M.mono (fun r h1 hp => ?_) (c_Mod_rule l G h (w9 := 0) (o := some 0) (rf := fun x => (4, gr_w cs 1, x, none)) hMO hL hR.2.2.1 hW (by omega) (by decide) (fun t z => by cases z; decide) (fun x => ⟨rfl, rfl, rfl⟩) (fun t z => by rw [gm_w_y (t := 1) (by omega) (by omega)]; exact (gm_pat_1 (hb 1 (by omega)).1 (hb 1 (by omega)).2 z).1))
  rcases hp with ⟨hno, hr, hk, a, b, c9, d, m2⟩ | ⟨hc, hp⟩
  · exact ⟨fv, _, tl, m2, rfl, (hk.mono (by decide)), Or.inl ⟨gr_sd_no sd (fun z => hno ⟨z, by simp⟩), hr, gm_R_0 hR ⟨fun _ _ => rfl, fun j hj => by simp at hj; simp [pd_fu, hj]⟩⟩⟩
  · obtain ⟨hr, hk, fv2, iv2, m2, c2, q⟩ := hp 0 rfl
    exact ⟨fv2, iv2, tl, m2, q.i rfl, (hk.mono (by decide)), Or.inr ⟨sd.mpr hc.1, hr, gm_R_U hR q c2⟩⟩
theorem c_W_5 (l : Launch) (G : pd_G) (h : pd_H) {y : Nat} {ad : Nat → Nat} {fv : Nat → Nat → Int32} {iv : Nat → Int32} {tl : Int64} {cs : List Nat} {n : Nat} {R : Nat → pd_cr} {k : Nat} {M : Nat → pd_mr} {u : Nat} {U : Nat → pd_rr} {T : Nat → List Nat} {kp nx : Nat} {sp : Int64} {an gn sn dn : Nat} (hMO : pd_MO G h y ad fv iv tl) (hL : gm_L fv iv cs) (hR : gm_R fv iv tl n R k M u U T kp nx sp an gn dn) (hI : gm_I n R k u U) (hW : gm_W fv cs (gm_split cs).1 (gm_split cs).2.1 (gm_split cs).2.2) (han : an < 1000) (hnw : (gm_split cs).1 = 2) : pd_M l y_Mod_rule prog_15_method_33_code 5 (some .int) rm_Mod_rule G h [.ref y, .int (nI 1), .int (nI 0)] Value.int (fun r h1 => gm_P G h h1 y ad iv cs n R k M u U T kp nx sp an gn sn dn 5 r) := by
  have hb := hW.ok
  have sd := gm_sy_5 hb hnw
  refine pd_M.mono (fun r h1 hp => ?_) (c_Mod_rule l G h (w9 := 1) (o := some 0) (rf := fun x => (5, gr_w cs 1, x, none)) hMO hL hR.2.2.1 hW (by omega) (by decide) (fun t z => by cases z; decide) (fun x => ⟨rfl, rfl, rfl⟩) (fun t z => by rw [gm_w_y (t := 1) (by omega) (by omega)]; exact (gm_pat_1 (hb 1 (by omega)).1 (hb 1 (by omega)).2 z).1))
  rcases hp with ⟨hno, hr, hk, a, b, c9, d, m2⟩ | ⟨hc, hp⟩
  · exact ⟨fv, _, tl, m2, rfl, (hk.mono (by decide)), Or.inl ⟨gr_sd_no sd (fun z => hno ⟨z, by simp⟩), hr, gm_R_0 hR ⟨fun _ _ => rfl, fun j hj => by simp at hj; simp [pd_fu, hj]⟩⟩⟩
  · obtain ⟨hr, hk, fv2, iv2, m2, c2, q⟩ := hp 0 rfl
    exact ⟨fv2, iv2, tl, m2, q.i rfl, (hk.mono (by decide)), Or.inr ⟨sd.mpr hc.1, hr, gm_R_U hR q c2⟩⟩
theorem c_W_6 (l : Launch) (G : pd_G) (h : pd_H) {y : Nat} {ad : Nat → Nat} {fv : Nat → Nat → Int32} {iv : Nat → Int32} {tl : Int64} {cs : List Nat} {n : Nat} {R : Nat → pd_cr} {k : Nat} {M : Nat → pd_mr} {u : Nat} {U : Nat → pd_rr} {T : Nat → List Nat} {kp nx : Nat} {sp : Int64} {an gn sn dn : Nat} {o : Option Nat} (hMO : pd_MO G h y ad fv iv tl) (hL : gm_L fv iv cs) (hR : gm_R fv iv tl n R k M u U T kp nx sp an gn dn) (hI : gm_I n R k u U) (hW : gm_W fv cs (gm_split cs).1 (gm_split cs).2.1 (gm_split cs).2.2) (han : an < 1000) (hnw : (gm_split cs).1 = 3) (ho : o = gm_num cs ((gm_split cs).2.1 2) ((gm_split cs).2.2 2)) : pd_M l y_Mod_rule prog_15_method_33_code 5 (some .int) rm_Mod_rule G h [.ref y, .int (nI 2), .int (pd_m o)] Value.int (fun r h1 => gm_P G h h1 y ad iv cs n R k M u U T kp nx sp an gn sn dn 6 r) := by
  have hb := hW.ok
  have sd := gm_sy_6 hb hnw
  have hnq := gm_num_w hb hnw
  refine pd_M.mono (fun r h1 hp => ?_) (c_Mod_rule l G h (w9 := 2) (o := o) (rf := fun x => (6, gr_w cs 1, x, none)) hMO hL hR.2.2.1 hW (by omega) (by decide) (fun t z => by rw [ho, hnq] at z; split at z; cases z; exact gr_num_lt (by assumption); cases z) (fun x => ⟨rfl, rfl, rfl⟩) (fun t z => by rw [gm_w_y (t := 1) (by omega) (by omega)]; exact (gm_pat_1 (hb 1 (by omega)).1 (hb 1 (by omega)).2 z).1))
  rcases hp with ⟨hno, hr, hk, a, b, c9, d, m2⟩ | ⟨hc, hp⟩
  · exact ⟨fv, _, tl, m2, rfl, (hk.mono (by decide)), Or.inl ⟨gr_sd_no sd (fun z => hno ⟨z.1, by rw [ho]; exact z.2⟩), hr, gm_R_0 hR ⟨fun _ _ => rfl, fun j hj => by simp at hj; simp [pd_fu, hj]⟩⟩⟩
  · obtain ⟨hr, hk, fv2, iv2, m2, c2, q⟩ := hp (gr_num (gr_w cs 2)) (by rw [ho, hnq]; by_cases q : gr_cost (gr_w cs 2) = true; rw [if_pos q]; rw [ho, hnq, if_neg q] at hc; exact absurd rfl hc.2)
    exact ⟨fv2, iv2, tl, m2, q.i rfl, (hk.mono (by decide)), Or.inr ⟨sd.mpr ⟨hc.1, by rw [← ho]; exact hc.2⟩, hr, gm_R_U hR q c2⟩⟩
theorem c_W_7 (l : Launch) (G : pd_G) (h : pd_H) {y : Nat} {ad : Nat → Nat} {fv : Nat → Nat → Int32} {iv : Nat → Int32} {tl : Int64} {cs : List Nat} {n : Nat} {R : Nat → pd_cr} {k : Nat} {M : Nat → pd_mr} {u : Nat} {U : Nat → pd_rr} {T : Nat → List Nat} {kp nx : Nat} {sp : Int64} {an gn sn dn : Nat} (hMO : pd_MO G h y ad fv iv tl) (hL : gm_L fv iv cs) (hR : gm_R fv iv tl n R k M u U T kp nx sp an gn dn) (hI : gm_I n R k u U) (hW : gm_W fv cs (gm_split cs).1 (gm_split cs).2.1 (gm_split cs).2.2) (han : an < 1000) (hnw : (gm_split cs).1 = 3) : pd_M l y_Mod_lead prog_15_method_32_code 3 (some .int) rm_Mod_lead G h [.ref y] Value.int (fun r h1 => gm_P G h h1 y ad iv cs n R k M u U T kp nx sp an gn sn dn 7 r) := by
  have hb := hW.ok
  have sd := gm_sy_7 hb hnw
  refine pd_M.mono (fun r h1 hp => ?_) (c_Mod_lead l G h hMO hL hR.1 hR.2.1 hR.2.2.1 hW (by omega) (fun z => by rw [gm_w_y (by omega) (by omega)]; exact gm_mem_bda (hb 2 (by omega)).1 (hb 2 (by omega)).2 z) (fun t z => by rw [gm_w_y (t := 1) (by omega) (by omega)]; exact (gm_pat_1 (hb 1 (by omega)).1 (hb 1 (by omega)).2 z).1))
  rcases hp with ⟨hno, hr, hk, fv2, iv2, m2, q, c2⟩ | ⟨hc, hr, hk, fv2, iv2, m2, q, c2⟩
  · exact ⟨fv2, iv2, tl, m2, q.i rfl, (hk.mono (by decide)), Or.inl ⟨gr_sd_no sd hno, hr, gm_R_U hR q c2⟩⟩
  · exact ⟨fv2, iv2, tl, m2, q.i rfl, (hk.mono (by decide)), Or.inr ⟨sd.mpr hc, hr, gm_R_U hR q c2⟩⟩
theorem c_W_8 (l : Launch) (G : pd_G) (h : pd_H) {y : Nat} {ad : Nat → Nat} {fv : Nat → Nat → Int32} {iv : Nat → Int32} {tl : Int64} {cs : List Nat} {n : Nat} {R : Nat → pd_cr} {k : Nat} {M : Nat → pd_mr} {u : Nat} {U : Nat → pd_rr} {T : Nat → List Nat} {kp nx : Nat} {sp : Int64} {an gn sn dn : Nat} (hMO : pd_MO G h y ad fv iv tl) (hL : gm_L fv iv cs) (hR : gm_R fv iv tl n R k M u U T kp nx sp an gn dn) (hI : gm_I n R k u U) (hW : gm_W fv cs (gm_split cs).1 (gm_split cs).2.1 (gm_split cs).2.2) (han : an < 1000) (hnw : (gm_split cs).1 = 2) : pd_M l y_Mod_askC prog_15_method_38_code 4 (some .int) rm_Mod_askC G h [.ref y, .int (nI 1)] Value.int (fun r h1 => gm_P G h h1 y ad iv cs n R k M u U T kp nx sp an gn sn dn 8 r) := by
  have hb := hW.ok
  have sd := gm_sy_8 hb hnw
  refine pd_M.mono (fun r h1 hp => ?_) (c_Mod_askC l G h (wt := 1) hMO hL hR.1 hR.2.1 hR.2.2.1 hI.1 hI.2.1 hI.2.2 hW hR.2.2.2.2.2.2.1 hR.2.2.2.1 hR.2.2.2.2.1 hR.2.2.2.2.2.1 han (gm_split_w (by omega) (by omega)) (by omega) ⟨by decide, by decide⟩)
  rcases hp with ⟨hno, hr, hk, m2⟩ | ⟨hc, hr, hk, a1, a2, fo1, fo2, v35, v43, m2, ca⟩
  · exact ⟨_, _, tl, m2, rfl, (hk.mono (by decide)), Or.inl ⟨gr_sd_no sd hno, hr, gm_R_0 hR ⟨fun _ _ => rfl, fun _ _ => rfl⟩⟩⟩
  · refine ⟨_, _, _, m2, rfl, (hk.mono (by decide)), Or.inr ⟨sd.mpr hc, hr, ?_⟩⟩
    have hnx := hR.2.2.2.2.2.2.2.2.2
    have hsp := hR.2.2.2.2.2.2.2.1
    rw [gr_do_8, ← hsp]
    rw [← hnx] at ca
    exact gm_R_A hR ⟨fun j hj => by simp at hj; simp [pd_fu, hj], fun j hj => by simp at hj; simp [pd_fu, hj]⟩ rfl rfl rfl ca
theorem c_W_9 (l : Launch) (G : pd_G) (h : pd_H) {y : Nat} {ad : Nat → Nat} {fv : Nat → Nat → Int32} {iv : Nat → Int32} {tl : Int64} {cs : List Nat} {n : Nat} {R : Nat → pd_cr} {k : Nat} {M : Nat → pd_mr} {u : Nat} {U : Nat → pd_rr} {T : Nat → List Nat} {kp nx : Nat} {sp : Int64} {an gn sn dn : Nat} (hMO : pd_MO G h y ad fv iv tl) (hL : gm_L fv iv cs) (hR : gm_R fv iv tl n R k M u U T kp nx sp an gn dn) (hI : gm_I n R k u U) (hW : gm_W fv cs (gm_split cs).1 (gm_split cs).2.1 (gm_split cs).2.2) (han : an < 1000) (hnw : (gm_split cs).1 = 2) : pd_M l y_Mod_askC prog_15_method_38_code 4 (some .int) rm_Mod_askC G h [.ref y, .int (nI 2)] Value.int (fun r h1 => gm_P G h h1 y ad iv cs n R k M u U T kp nx sp an gn sn dn 9 r) := by
  have hb := hW.ok
  have sd := gm_sy_9 hb hnw
  refine pd_M.mono (fun r h1 hp => ?_) (c_Mod_askC l G h (wt := 2) hMO hL hR.1 hR.2.1 hR.2.2.1 hI.1 hI.2.1 hI.2.2 hW hR.2.2.2.2.2.2.1 hR.2.2.2.1 hR.2.2.2.2.1 hR.2.2.2.2.2.1 han (gm_split_w (by omega) (by omega)) (by omega) ⟨by decide, by decide⟩)
  rcases hp with ⟨hno, hr, hk, m2⟩ | ⟨hc, hr, hk, a1, a2, fo1, fo2, v35, v43, m2, ca⟩
  · exact ⟨_, _, tl, m2, rfl, (hk.mono (by decide)), Or.inl ⟨gr_sd_no sd hno, hr, gm_R_0 hR ⟨fun _ _ => rfl, fun _ _ => rfl⟩⟩⟩
  · refine ⟨_, _, _, m2, rfl, (hk.mono (by decide)), Or.inr ⟨sd.mpr hc, hr, ?_⟩⟩
    have hnx := hR.2.2.2.2.2.2.2.2.2
    have hsp := hR.2.2.2.2.2.2.2.1
    rw [gr_do_9, ← hsp]
    rw [← hnx] at ca
    exact gm_R_A hR ⟨fun j hj => by simp at hj; simp [pd_fu, hj], fun j hj => by simp at hj; simp [pd_fu, hj]⟩ rfl rfl rfl ca
theorem c_W_10 (l : Launch) (G : pd_G) (h : pd_H) {y : Nat} {ad : Nat → Nat} {fv : Nat → Nat → Int32} {iv : Nat → Int32} {tl : Int64} {cs : List Nat} {n : Nat} {R : Nat → pd_cr} {k : Nat} {M : Nat → pd_mr} {u : Nat} {U : Nat → pd_rr} {T : Nat → List Nat} {kp nx : Nat} {sp : Int64} {an gn sn dn : Nat} (hMO : pd_MO G h y ad fv iv tl) (hL : gm_L fv iv cs) (hR : gm_R fv iv tl n R k M u U T kp nx sp an gn dn) (hI : gm_I n R k u U) (hW : gm_W fv cs (gm_split cs).1 (gm_split cs).2.1 (gm_split cs).2.2) (han : an < 1000) (hnw : (gm_split cs).1 = 2) : pd_M l y_Mod_askC prog_15_method_38_code 4 (some .int) rm_Mod_askC G h [.ref y, .int (nI 3)] Value.int (fun r h1 => gm_P G h h1 y ad iv cs n R k M u U T kp nx sp an gn sn dn 10 r) := by
  have hb := hW.ok
  have sd := gm_sy_10 hb hnw
  refine pd_M.mono (fun r h1 hp => ?_) (c_Mod_askC l G h (wt := 3) hMO hL hR.1 hR.2.1 hR.2.2.1 hI.1 hI.2.1 hI.2.2 hW hR.2.2.2.2.2.2.1 hR.2.2.2.1 hR.2.2.2.2.1 hR.2.2.2.2.2.1 han (gm_split_w (by omega) (by omega)) (by omega) ⟨by decide, by decide⟩)
  rcases hp with ⟨hno, hr, hk, m2⟩ | ⟨hc, hr, hk, a1, a2, fo1, fo2, v35, v43, m2, ca⟩
  · exact ⟨_, _, tl, m2, rfl, (hk.mono (by decide)), Or.inl ⟨gr_sd_no sd hno, hr, gm_R_0 hR ⟨fun _ _ => rfl, fun _ _ => rfl⟩⟩⟩
  · refine ⟨_, _, _, m2, rfl, (hk.mono (by decide)), Or.inr ⟨sd.mpr hc, hr, ?_⟩⟩
    have hnx := hR.2.2.2.2.2.2.2.2.2
    have hsp := hR.2.2.2.2.2.2.2.1
    rw [gr_do_10, ← hsp]
    rw [← hnx] at ca
    exact gm_R_A hR ⟨fun j hj => by simp at hj; simp [pd_fu, hj], fun j hj => by simp at hj; simp [pd_fu, hj]⟩ rfl rfl rfl ca
theorem c_W_11 (l : Launch) (G : pd_G) (h : pd_H) {y : Nat} {ad : Nat → Nat} {fv : Nat → Nat → Int32} {iv : Nat → Int32} {tl : Int64} {cs : List Nat} {n : Nat} {R : Nat → pd_cr} {k : Nat} {M : Nat → pd_mr} {u : Nat} {U : Nat → pd_rr} {T : Nat → List Nat} {kp nx : Nat} {sp : Int64} {an gn sn dn : Nat} (hMO : pd_MO G h y ad fv iv tl) (hL : gm_L fv iv cs) (hR : gm_R fv iv tl n R k M u U T kp nx sp an gn dn) (hI : gm_I n R k u U) (hW : gm_W fv cs (gm_split cs).1 (gm_split cs).2.1 (gm_split cs).2.2) (han : an < 1000) (hnw : (gm_split cs).1 = 3) : pd_M l y_Mod_ask4 prog_15_method_38_code 4 (some .int) rm_Mod_ask4 G h [.ref y, .int (nI 4)] Value.int (fun r h1 => gm_P G h h1 y ad iv cs n R k M u U T kp nx sp an gn sn dn 11 r) := by
  have hb := hW.ok
  have sd := gm_sy_11 hb hnw
  refine pd_M.mono (fun r h1 hp => ?_) (c_Mod_ask4 l G h hMO hL hR.1 hR.2.1 hR.2.2.1 hI.1 hI.2.1 hI.2.2 hW hR.2.2.2.2.2.2.1 hR.2.2.2.1 hR.2.2.2.2.1 hR.2.2.2.2.2.1 han (by omega) (gm_split_w (by omega) (by omega)) (fun z => by rw [gm_w_y (by omega) (by omega)]; exact gm_mem_bda (hb 1 (by omega)).1 (hb 1 (by omega)).2 z) (fun z => by rw [gm_w_y (by omega) (by omega)]; exact gm_ism_t (hb 2 (by omega)).1 (hb 2 (by omega)).2 z))
  rcases hp with ⟨hno, hr, hk, m2⟩ | ⟨hc, hr, hk, a1, a2, fo1, fo2, v35, v43, m2, ca⟩
  · exact ⟨_, _, tl, m2, rfl, (hk.mono (by decide)), Or.inl ⟨gr_sd_no sd hno, hr, gm_R_0 hR ⟨fun _ _ => rfl, fun j hj => by simp at hj; simp [pd_fu, hj]⟩⟩⟩
  · refine ⟨_, _, _, m2, rfl, (hk.mono (by decide)), Or.inr ⟨sd.mpr hc, hr, ?_⟩⟩
    have hnx := hR.2.2.2.2.2.2.2.2.2
    have hsp := hR.2.2.2.2.2.2.2.1
    rw [gr_do_11, ← hsp]
    rw [← hnx] at ca
    exact gm_R_A hR ⟨fun j hj => by simp at hj; simp [pd_fu, hj], fun j hj => by simp at hj; simp [pd_fu, hj]⟩ rfl rfl rfl ca
theorem c_W_12 (l : Launch) (G : pd_G) (h : pd_H) {y : Nat} {ad : Nat → Nat} {fv : Nat → Nat → Int32} {iv : Nat → Int32} {tl : Int64} {cs : List Nat} {n : Nat} {R : Nat → pd_cr} {k : Nat} {M : Nat → pd_mr} {u : Nat} {U : Nat → pd_rr} {T : Nat → List Nat} {kp nx : Nat} {sp : Int64} {an gn sn dn : Nat} (hMO : pd_MO G h y ad fv iv tl) (hL : gm_L fv iv cs) (hR : gm_R fv iv tl n R k M u U T kp nx sp an gn dn) (hI : gm_I n R k u U) (hW : gm_W fv cs (gm_split cs).1 (gm_split cs).2.1 (gm_split cs).2.2) (han : an < 1000) (hnw : (gm_split cs).1 = 3) : pd_M l y_Mod_ask5 prog_15_method_38_code 4 (some .int) rm_Mod_ask5 G h [.ref y, .int (nI 5)] Value.int (fun r h1 => gm_P G h h1 y ad iv cs n R k M u U T kp nx sp an gn sn dn 12 r) := by
  have hb := hW.ok
  have sd := gm_sy_12 hb hnw
  refine pd_M.mono (fun r h1 hp => ?_) (c_Mod_ask5 l G h hMO hL hR.1 hR.2.1 hR.2.2.1 hI.1 hI.2.1 hI.2.2 hW hR.2.2.2.2.2.2.1 hR.2.2.2.1 hR.2.2.2.2.1 hR.2.2.2.2.2.1 han (by omega) (gm_split_w (by omega) (by omega)) (fun z => by rw [gm_w_y (by omega) (by omega)]; exact gm_mem_bda (hb 1 (by omega)).1 (hb 1 (by omega)).2 z) (fun z => by rw [gm_w_y (by omega) (by omega)]; exact gm_ism_s (hb 2 (by omega)).1 (hb 2 (by omega)).2 z))
  rcases hp with ⟨hno, hr, hk, m2⟩ | ⟨hc, hr, hk, a1, a2, fo1, fo2, v35, v43, m2, ca⟩
  · exact ⟨_, _, tl, m2, rfl, (hk.mono (by decide)), Or.inl ⟨gr_sd_no sd hno, hr, gm_R_0 hR ⟨fun _ _ => rfl, fun j hj => by simp at hj; simp [pd_fu, hj]⟩⟩⟩
  · refine ⟨_, _, _, m2, rfl, (hk.mono (by decide)), Or.inr ⟨sd.mpr hc, hr, ?_⟩⟩
    have hnx := hR.2.2.2.2.2.2.2.2.2
    have hsp := hR.2.2.2.2.2.2.2.1
    rw [gr_do_12, ← hsp]
    rw [← hnx] at ca
    exact gm_R_A hR ⟨fun j hj => by simp at hj; simp [pd_fu, hj], fun j hj => by simp at hj; simp [pd_fu, hj]⟩ rfl rfl rfl ca
