/-! asks -/
def gr_nat (M : Nat → pd_mr) (o : Option Nat) : Bool := match o with
  | none => false
  | some i => gr_ism (M i).2.2.1 && gr_mkb (M i).2.2.2 2
/-- the answer of allow, deny and cost; how many decisions -/
def gr_wg (R : Nat → pd_cr) (M : Nat → pd_mr) (u : Nat) (U : Nat → pd_rr) (j : Nat) (o : Option Nat) : Int32 × Nat := match gr_bst R M U 4 5 j o u with
  | none => (-7, 0)
  | some t => if (U t).1 = 5 ∨ (gr_nat M o = true ∧ ¬ gr_bh (U t).2.1 = 2) then (-7, 1) else match gr_bst R M U 6 6 j o u with
    | none => (nI 1, 1)
    | some t2 => (nI (U t2).2.2.1, 1)
def gr_jc (n : Nat) (R : Nat → pd_cr) (M : Nat → pd_mr) (u : Nat) (U : Nat → pd_rr) (cs : List Nat) (v : Nat) : Int32 × Nat := match gr_find R n (gr_w cs 1) with
  | none => (-2, 0)
  | some j => if v = 8 ∧ (R j).2.1 = true then (-4, 0) else if v = 10 ∧ (gr_bel R 1 j || gr_bel R j 1) = true then (-6, 0) else gr_wg R M u U j none
def gr_fnd (R : Nat → pd_cr) (k : Nat) (M : Nat → pd_mr) (cs : List Nat) (v j : Nat) : Option Nat := if v = 12 then gr_meth R M k (gr_ad (gr_w cs 1)) (gr_w cs 2) j else gr_ff R M k (gr_ad (gr_w cs 1)) (gr_w cs 2) 14 (some j)
def gr_shm (R : Nat → pd_cr) (M : Nat → pd_mr) (u : Nat) (U : Nat → pd_rr) (v b : Nat) : Option Nat := if v = 12 then gr_bst R M U 7 7 (M b).1 (some b) u else none
def gr_jm (n : Nat) (R : Nat → pd_cr) (k : Nat) (M : Nat → pd_mr) (u : Nat) (U : Nat → pd_rr) (cs : List Nat) (v : Nat) : Int32 × Nat := match gr_find R n (gr_bd (gr_w cs 1)) with
  | none => (-2, 0)
  | some j => match gr_fnd R k M cs v j with
    | none => (-2, 0)
    | some b => match gr_shm R M u U v b with
      | none => gr_wg R M u U (M b).1 (some b)
      | some t => match (U t).2.2.2 with
        | none => gr_wg R M u U (M b).1 (some b)
        | some s2 => (nI (10000 + s2), 1)
theorem gr_wg_ok {R : Nat → pd_cr} {M : Nat → pd_mr} {u : Nat} {U : Nat → pd_rr} {j : Nat} {o : Option Nat} (hc : ∀ i, i < u → (U i).2.2.1 < 1000) : gr_aok (gr_wg R M u U j o).1 := by
  unfold gr_wg
  split
  · exact Or.inr (Or.inr (Or.inr (Or.inl rfl)))
  · split
    · exact Or.inr (Or.inr (Or.inr (Or.inl rfl)))
    · split
      · exact Or.inr (Or.inr (Or.inr (Or.inr (Or.inl ⟨1, by decide, rfl⟩))))
      · rename_i z
        exact Or.inr (Or.inr (Or.inr (Or.inr (Or.inl ⟨_, hc _ (gr_bst_lt z), rfl⟩))))
theorem gr_jc_ok {n : Nat} {R : Nat → pd_cr} {M : Nat → pd_mr} {u : Nat} {U : Nat → pd_rr} {cs : List Nat} {v : Nat} (hc : ∀ i, i < u → (U i).2.2.1 < 1000) : gr_aok (gr_jc n R M u U cs v).1 := by
  unfold gr_jc
  split
  · exact Or.inl rfl
  · split
    · exact Or.inr (Or.inl rfl)
    · split
      · exact Or.inr (Or.inr (Or.inl rfl))
      · exact gr_wg_ok hc
theorem gr_shm_lt {R : Nat → pd_cr} {M : Nat → pd_mr} {u : Nat} {U : Nat → pd_rr} {v b t : Nat} (h : gr_shm R M u U v b = some t) : t < u := by
  unfold gr_shm at h
  split at h
  · exact gr_bst_lt h
  · cases h
theorem gr_fnd_lt {R : Nat → pd_cr} {k : Nat} {M : Nat → pd_mr} {cs : List Nat} {v j b : Nat} (h : gr_fnd R k M cs v j = some b) : b < k := by
  unfold gr_fnd at h
  split at h
  · exact gr_meth_lt h
  · exact gr_ff_lt h
theorem gr_jm_ok {n : Nat} {R : Nat → pd_cr} {k : Nat} {M : Nat → pd_mr} {u : Nat} {U : Nat → pd_rr} {cs : List Nat} {v : Nat} (hc : ∀ i, i < u → (U i).2.2.1 < 1000) (hs : ∀ i, i < u → ∀ b, (U i).2.2.2 = some b → b < k) (hk : k ≤ 24) : gr_aok (gr_jm n R k M u U cs v).1 := by
  unfold gr_jm
  split
  · exact Or.inl rfl
  · split
    · exact Or.inl rfl
    · split
      · exact gr_wg_ok hc
      · rename_i z
        split
        · exact gr_wg_ok hc
        · rename_i s2 y
          exact Or.inr (Or.inr (Or.inr (Or.inr (Or.inr ⟨s2, Nat.lt_of_lt_of_le (hs _ (gr_shm_lt z) _ y) hk, rfl⟩))))
def gr_jg (n : Nat) (R : Nat → pd_cr) (k : Nat) (M : Nat → pd_mr) (u : Nat) (U : Nat → pd_rr) (cs : List Nat) (v : Nat) : Int32 × Nat := if v = 11 ∨ v = 12 then gr_jm n R k M u U cs v else gr_jc n R M u U cs v
theorem gr_jg_ok {n : Nat} {R : Nat → pd_cr} {k : Nat} {M : Nat → pd_mr} {u : Nat} {U : Nat → pd_rr} {cs : List Nat} {v : Nat} (hc : ∀ i, i < u → (U i).2.2.1 < 1000) (hs : ∀ i, i < u → ∀ b, (U i).2.2.2 = some b → b < k) (hk : k ≤ 24) : gr_aok (gr_jg n R k M u U cs v).1 := by
  unfold gr_jg
  split
  · exact gr_jm_ok hc hs hk
  · exact gr_jc_ok hc
def gr_pay (sp : Int64) (a : Int32) : Int64 := if a < 0 then sp else sp + (if a < nI 10000 then a.toInt64 else 1)
def gr_gn (gn : Nat) (a : Int32) : Nat := if a < 0 then gn else gn + 1
theorem d_p1m22_0 : decode prog_1_method_22_code 0 = .ok (.aload_n 0, 1) := by decide +kernel
theorem d_p1m22_1 : decode prog_1_method_22_code 1 = .ok (.getfield 33, 3) := by decide +kernel
theorem d_p1m22_4 : decode prog_1_method_22_code 4 = .ok (.getstatic 309, 3) := by decide +kernel
theorem d_p1m22_7 : decode prog_1_method_22_code 7 = .ok (.getstatic 312, 3) := by decide +kernel
theorem d_p1m22_10 : decode prog_1_method_22_code 10 = .ok (.aload_n 1, 1) := by decide +kernel
theorem d_p1m22_11 : decode prog_1_method_22_code 11 = .ok (.aload_n 2, 1) := by decide +kernel
theorem d_p1m22_12 : decode prog_1_method_22_code 12 = .ok (.invokevirtual 298, 3) := by decide +kernel
theorem d_p1m22_15 : decode prog_1_method_22_code 15 = .ok (.astore_n 3, 1) := by decide +kernel
theorem d_p1m22_16 : decode prog_1_method_22_code 16 = .ok (.aload_n 3, 1) := by decide +kernel
theorem d_p1m22_17 : decode prog_1_method_22_code 17 = .ok (.ifnonnull 6, 3) := by decide +kernel
theorem d_p1m22_20 : decode prog_1_method_22_code 20 = .ok (.bipush (-7), 2) := by decide +kernel
theorem d_p1m22_22 : decode prog_1_method_22_code 22 = .ok (.ireturn, 1) := by decide +kernel
theorem d_p1m22_23 : decode prog_1_method_22_code 23 = .ok (.aload_n 0, 1) := by decide +kernel
theorem d_p1m22_24 : decode prog_1_method_22_code 24 = .ok (.dup, 1) := by decide +kernel
theorem d_p1m22_25 : decode prog_1_method_22_code 25 = .ok (.getfield 193, 3) := by decide +kernel
theorem d_p1m22_28 : decode prog_1_method_22_code 28 = .ok (.iconst 1, 1) := by decide +kernel
theorem d_p1m22_29 : decode prog_1_method_22_code 29 = .ok (.iadd, 1) := by decide +kernel
theorem d_p1m22_30 : decode prog_1_method_22_code 30 = .ok (.putfield 193, 3) := by decide +kernel
theorem d_p1m22_33 : decode prog_1_method_22_code 33 = .ok (.aload_n 2, 1) := by decide +kernel
theorem d_p1m22_34 : decode prog_1_method_22_code 34 = .ok (.ifnull 21, 3) := by decide +kernel
theorem d_p1m22_37 : decode prog_1_method_22_code 37 = .ok (.aload_n 2, 1) := by decide +kernel
theorem d_p1m22_38 : decode prog_1_method_22_code 38 = .ok (.getfield 163, 3) := by decide +kernel
theorem d_p1m22_41 : decode prog_1_method_22_code 41 = .ok (.ifCond .eq 14, 3) := by decide +kernel
theorem d_p1m22_44 : decode prog_1_method_22_code 44 = .ok (.aload_n 2, 1) := by decide +kernel
theorem d_p1m22_45 : decode prog_1_method_22_code 45 = .ok (.invokevirtual 315, 3) := by decide +kernel
theorem d_p1m22_48 : decode prog_1_method_22_code 48 = .ok (.ifCond .eq 7, 3) := by decide +kernel
theorem d_p1m22_51 : decode prog_1_method_22_code 51 = .ok (.iconst 1, 1) := by decide +kernel
theorem d_p1m22_52 : decode prog_1_method_22_code 52 = .ok (.goto 4, 3) := by decide +kernel
theorem d_p1m22_55 : decode prog_1_method_22_code 55 = .ok (.iconst 0, 1) := by decide +kernel
theorem d_p1m22_56 : decode prog_1_method_22_code 56 = .ok (.istore 4, 2) := by decide +kernel
theorem d_p1m22_58 : decode prog_1_method_22_code 58 = .ok (.aload_n 3, 1) := by decide +kernel
theorem d_p1m22_59 : decode prog_1_method_22_code 59 = .ok (.getfield 318, 3) := by decide +kernel
theorem d_p1m22_62 : decode prog_1_method_22_code 62 = .ok (.getstatic 312, 3) := by decide +kernel
theorem d_p1m22_65 : decode prog_1_method_22_code 65 = .ok (.if_acmp .eq 18, 3) := by decide +kernel
theorem d_p1m22_68 : decode prog_1_method_22_code 68 = .ok (.iload 4, 2) := by decide +kernel
theorem d_p1m22_70 : decode prog_1_method_22_code 70 = .ok (.ifCond .eq 16, 3) := by decide +kernel
theorem d_p1m22_73 : decode prog_1_method_22_code 73 = .ok (.aload_n 3, 1) := by decide +kernel
theorem d_p1m22_74 : decode prog_1_method_22_code 74 = .ok (.getfield 321, 3) := by decide +kernel
theorem d_p1m22_77 : decode prog_1_method_22_code 77 = .ok (.invokevirtual 325, 3) := by decide +kernel
theorem d_p1m22_80 : decode prog_1_method_22_code 80 = .ok (.ifCond .ne 6, 3) := by decide +kernel
theorem d_p1m22_83 : decode prog_1_method_22_code 83 = .ok (.bipush (-7), 2) := by decide +kernel
theorem d_p1m22_85 : decode prog_1_method_22_code 85 = .ok (.ireturn, 1) := by decide +kernel
theorem d_p1m22_86 : decode prog_1_method_22_code 86 = .ok (.aload_n 0, 1) := by decide +kernel
theorem d_p1m22_87 : decode prog_1_method_22_code 87 = .ok (.getfield 33, 3) := by decide +kernel
theorem d_p1m22_90 : decode prog_1_method_22_code 90 = .ok (.getstatic 248, 3) := by decide +kernel
theorem d_p1m22_93 : decode prog_1_method_22_code 93 = .ok (.getstatic 248, 3) := by decide +kernel
theorem d_p1m22_96 : decode prog_1_method_22_code 96 = .ok (.aload_n 1, 1) := by decide +kernel
theorem d_p1m22_97 : decode prog_1_method_22_code 97 = .ok (.aload_n 2, 1) := by decide +kernel
theorem d_p1m22_98 : decode prog_1_method_22_code 98 = .ok (.invokevirtual 298, 3) := by decide +kernel
theorem d_p1m22_101 : decode prog_1_method_22_code 101 = .ok (.astore 5, 2) := by decide +kernel
theorem d_p1m22_103 : decode prog_1_method_22_code 103 = .ok (.aload 5, 2) := by decide +kernel
theorem d_p1m22_105 : decode prog_1_method_22_code 105 = .ok (.ifnonnull 7, 3) := by decide +kernel
theorem d_p1m22_108 : decode prog_1_method_22_code 108 = .ok (.iconst 1, 1) := by decide +kernel
theorem d_p1m22_109 : decode prog_1_method_22_code 109 = .ok (.goto 8, 3) := by decide +kernel
theorem d_p1m22_112 : decode prog_1_method_22_code 112 = .ok (.aload 5, 2) := by decide +kernel
theorem d_p1m22_114 : decode prog_1_method_22_code 114 = .ok (.getfield 330, 3) := by decide +kernel
theorem d_p1m22_117 : decode prog_1_method_22_code 117 = .ok (.ireturn, 1) := by decide +kernel
abbrev y_PolicyDesk_weigh : MethodName := ⟨"PolicyDesk", "weigh", "(LPolicyDesk$ClassRow;LPolicyDesk$MemberRow;)I"⟩
theorem ok_PolicyDesk_weigh : pd_ok y_PolicyDesk_weigh prog_1_method_22_code 6 (some .int) 2 := ⟨mT_963, mT_1, by decide, by decide +kernel⟩
abbrev rm_PolicyDesk_weigh : Room := { frames := 7, cells := 0, slots := 0, locals := 158 }
set_option maxHeartbeats 4000000 in
set_option maxRecDepth 100000 in
theorem c_PolicyDesk_weigh (l : Launch) (G : pd_G) (h : pd_H) {x : Nat} {A B C : Nat → Nat} {t0 : List Nat} {n : Nat} {R : Nat → pd_cr} {k : Nat} {M : Nat → pd_mr} {u : Nat} {U : Nat → pd_rr} {T : Nat → List Nat} {kp nx : Nat} {sp : Int64} {an gn sn dn : Nat} {j : Nat} {o : Option Nat} (hD : pd_DX G h x A B C t0 n R k M u U T kp nx sp an gn sn dn) (hjn : j < n) (ho : ∀ t, o = some t → t < k) : pd_M l y_PolicyDesk_weigh prog_1_method_22_code 6 (some .int) rm_PolicyDesk_weigh G h [.ref x, .ref (A j), va_rf (o.map B)] Value.int (fun r h1 => r = (gr_wg R M u U j o).1 ∧ pd_kx [5] h h1 ∧ pd_DX G h1 x A B C t0 n R k M u U T kp nx sp an gn sn (dn + (gr_wg R M u U j o).2)) := by
  refine pd_M.of (by decide) (by cases o <;> exact Nat.le_of_ble_eq_true rfl) ?_
  intro p e s m below meth c X hmn w ls hl
  have hx := X.1
  have hb := X.2.1
  have hl : lv_has ls 6 [(0, .ref x), (1, .ref (A j)), (2, va_rf (o.map B))] := by simp only [lv_args, pd_cat] at hl; simpa [Value.category] using hl
  obtain ⟨lb, cl, me, ru, bk, hx0, hz_x, hsb, hC, hM, hU, hA, ht60⟩ := id hD
  have hR := hC.rows
  have hMR := hM.mrows
  have hRR := hU.rrows
  have hcw := hR.2.2
  have hAi := hR.2.1
  have hn14 := hcw.1
  have ht21 : (2 : Nat) ≠ 1 := by decide
  have ht10 : (1 : Nat) ≠ 0 := by decide
  have ht20 : (2 : Nat) ≠ 0 := by decide
  rcases pd_oc o with q0 | ⟨i9, q0⟩
  · -- False
    subst q0
    have hl : lv_has ls 6 [(0, .ref x), (1, .ref (A j)), (2, .null)] := hl
    refine lv_aload_n hx hb d_p1m22_0 rfl (lv_at hl 0 rfl) ?_
    refine pd_get X w hx0 rfl 3 (by decide) mT_370 rfl rfl d_p1m22_1 ?_
    refine pd_gets X w (List.mem_of_getElem? (i := 10) rfl) mT_964 d_p1m22_4 ?_
    refine pd_gets X w (List.mem_of_getElem? (i := 11) rfl) mT_966 d_p1m22_7 ?_
    refine lv_aload_n hx hb d_p1m22_10 rfl (lv_at hl 1 rfl) ?_
    refine lv_aload_nN hx hb d_p1m22_11 rfl (lv_at hl 2 rfl) ?_
    obtain ⟨ar4, g5, f6, f7, g8, hz9, hz10, z11, f12⟩ := id hU
    refine pd_cV (a := ru) (As := [.ref (G.2.2.2 14), .ref (G.2.2.2 15), .ref (A j), .null]) (rest := []) X w f6 rfl (c_Rules_best l G h (A := A) (B := B) (C := C) (n := n) (R := R) (k := k) (M := M) (u := u) (U := U) (v1 := 4) (v2 := 5) (j := j) (o := none) (by assumption) (by assumption) (by assumption) (by omega) (by omega) (by omega) (fun t ht => by cases ht)) ok_Rules_best ⟨mT_949, mT_950⟩ mT_948 ⟨by decide, by decide⟩ rfl hl.1 rfl (Nat.le_of_ble_eq_true rfl) d_p1m22_12 ⟨by decide, by decide⟩ (fun r1 h2 H locs hp3 w => ?_)
    refine W.widen (k := 0) (n := 0) (by decide) (by decide) ?_
    obtain ⟨e13, rfl⟩ := hp3
    refine pd_ostore_n (lv' := [(3, va_rf r1), (0, .ref x), (1, .ref (A j)), (2, .null)]) hx hb d_p1m22_15 rfl hl (by decide) rfl (fun ls hl => ?_)
    refine pd_oload_n hx hb d_p1m22_16 rfl (lv_at hl 0 rfl) ?_
    rcases pd_om e13 with ⟨q14, q17⟩ | ⟨i16, q14, q17⟩
    · -- none
      refine pd_top (v' := .null) (by rw [q17]; rfl) ?_
      rw [q17] at hl
      have hl : lv_has ls 6 [(3, .null), (0, .ref x), (1, .ref (A j)), (2, .null)] := hl
      refine lv_ifnonnullN hx hb d_p1m22_17 ?_
      refine lv_bipush (v := -7) hx hb d_p1m22_20 (by decide) ?_
      have hg : gr_wg R M u U j (none) = (-7, 0) := by unfold gr_wg; simp only [q14]
      exact pd_iret (v := (-7)) X w ⟨by rw [hg], pd_kx.rf, (by rw [hg]; exact ⟨lb, cl, me, ru, bk, hx0, hz_x, hsb, hC, hM, hU, hA, ht60⟩)⟩ (by decide) (by decide) d_p1m22_22
    · -- some
      refine pd_top (v' := .ref (C i16)) (by rw [q17]; rfl) ?_
      rw [q17] at hl
      have hl : lv_has ls 6 [(3, .ref (C i16)), (0, .ref x), (1, .ref (A j)), (2, .null)] := hl
      have i16lt := gr_bst_lt q14
      refine lv_ifnonnull (tgt := 23) hx hb d_p1m22_17 (by decide) ?_
      refine lv_aload_n hx hb d_p1m22_23 rfl (lv_at hl 1 rfl) ?_
      refine lv_dup hx hb d_p1m22_24 rfl ?_
      refine pd_get X w hx0 rfl 9 (by decide) mT_376 rfl rfl d_p1m22_25 ?_
      refine lv_iconst (v := nI 1) hx hb d_p1m22_28 (by decide) ?_
      refine pd_iadd hx hb d_p1m22_29 ?_
      refine pd_put (ty := .int) X w hx0 hz_x rfl 9 (by decide) mT_376 rfl rfl (by decide +kernel) rfl rfl (Nat.le_of_ble_eq_true rfl) d_p1m22_30 (fun H locs w => ?_)
      have w : pd_w G s H locs (pd_up h x (5, .inr (0, [.ref lb, .ref cl, .ref me, .ref ru, .ref bk, .long sp, .int (nI an), .int (nI gn), .int (nI sn), .int (nI (dn + 1))]))) := w
      obtain ⟨h20, u23⟩ : ∃ z, z = pd_up h x (5, .inr (0, [.ref lb, .ref cl, .ref me, .ref ru, .ref bk, .long sp, .int (nI an), .int (nI gn), .int (nI sn), .int (nI (dn + 1))])) := ⟨_, rfl⟩
      rw [← u23] at w
      have k21 : pd_kq x h h20 := by rw [u23]; exact pd_up_kq
      have f22 : h20 x = some (5, .inr (0, [.ref lb, .ref cl, .ref me, .ref ru, .ref bk, .long sp, .int (nI an), .int (nI gn), .int (nI sn), .int (nI (dn + 1))])) := by rw [u23]; exact pd_up_s _ _ _
      have f24 := k21 _ _ (pd_ne f6 hx0 (by simp)) f6
      have f25 := hsb.kx (pd_kq.kx k21 hx0) (show (1 : Nat) ∉ [5] by decide) (show (2 : Nat) ∉ [5] by decide)
      have f26 := hC.kx (pd_kq.kx k21 hx0) (show (6 : Nat) ∉ [5] by decide) (show (10 : Nat) ∉ [5] by decide) (show (0 : Nat) ∉ [5] by decide)
      have f27 := hM.kx (pd_kq.kx k21 hx0) (show (11 : Nat) ∉ [5] by decide) (show (12 : Nat) ∉ [5] by decide) (show (0 : Nat) ∉ [5] by decide)
      have f28 := hU.kx (pd_kq.kx k21 hx0) (show (13 : Nat) ∉ [5] by decide) (show (14 : Nat) ∉ [5] by decide) (show (0 : Nat) ∉ [5] by decide)
      have f29 := hA.kx (pd_kq.kx k21 hx0) (show (15 : Nat) ∉ [5] by decide) (show (16 : Nat) ∉ [5] by decide) (show (17 : Nat) ∉ [5] by decide) (show (3 : Nat) ∉ [5] by decide) (show (4 : Nat) ∉ [5] by decide)
      have f30 := hR.kx (pd_kq.kx k21 hx0) (show (0 : Nat) ∉ [5] by decide)
      have f31 := hMR.kx (pd_kq.kx k21 hx0) (show (0 : Nat) ∉ [5] by decide)
      have f32 := hRR.kx (pd_kq.kx k21 hx0) (show (0 : Nat) ∉ [5] by decide)
      refine lv_aload_nN hx hb d_p1m22_33 rfl (lv_at hl 3 rfl) ?_
      refine lv_ifnullN (tgt := 55) hx hb d_p1m22_34 (by decide) ?_
      refine lv_iconst (v := nI 0) hx hb d_p1m22_55 (by decide) ?_
      have hnat : gr_nat M (none) = false := rfl
      refine lv_istore (lv' := [(4, .int (nI 0)), (3, .ref (C i16)), (0, .ref x), (1, .ref (A j)), (2, .null)]) hx hb d_p1m22_56 hl (by decide) rfl (fun ls hl => ?_)
      refine lv_aload_n hx hb d_p1m22_58 rfl (lv_at hl 1 rfl) ?_
      obtain ⟨⟨pa34, f35, f36⟩, z37, z38, z39⟩ := f32 i16 (by omega)
      refine pd_get X w f35 rfl 0 (by decide) mT_903 rfl rfl d_p1m22_59 ?_
      refine pd_gets X w (List.mem_of_getElem? (i := 11) rfl) mT_966 d_p1m22_62 ?_
      refine lv_acmp_eq (rx := (some (G.2.2.2 (10 + (U i16).1)))) (ry := (some (G.2.2.2 15))) (tgt := 83) hx hb d_p1m22_65 (by decide) (fun q40 => ?_) (fun q40 => ?_)
      · -- taken: 83
        have hv5 : (U i16).1 = 5 := ((pd_Kf_of X).2.2.2.2.2.2 _ 5 z37 (by decide) (Option.some.inj q40))
        refine lv_bipush (v := -7) hx hb d_p1m22_83 (by decide) ?_
        have hg : gr_wg R M u U j (none) = (-7, 1) := by unfold gr_wg; simp only [q14]; rw [if_pos (Or.inl hv5)]
        exact pd_iret (v := (-7)) X w ⟨by rw [hg], pd_kq.kx (k21) hx0, (by rw [hg]; exact ⟨lb, cl, me, ru, bk, f22, hz_x, f25, f26, f27, f28, f29, ht60⟩)⟩ (by decide) (by decide) d_p1m22_85
      · -- not taken: 68
        have hv5 : ¬ (U i16).1 = 5 := (fun e9 => q40 (by rw [e9]))
        refine lv_iload hx hb d_p1m22_68 (lv_at hl 0 rfl) ?_
        refine pd_zeq (tgt := 86) hx hb d_p1m22_70 (by decide) (by decide) (fun _ => ?_) (fun q => absurd q (by decide))
        refine lv_aload_n hx hb d_p1m22_86 rfl (lv_at hl 2 rfl) ?_
        refine pd_get X w f22 rfl 3 (by decide) mT_370 rfl rfl d_p1m22_87 ?_
        refine pd_gets X w (List.mem_of_getElem? (i := 12) rfl) mT_858 d_p1m22_90 ?_
        refine pd_gets X w (List.mem_of_getElem? (i := 12) rfl) mT_858 d_p1m22_93 ?_
        refine lv_aload_n hx hb d_p1m22_96 rfl (lv_at hl 3 rfl) ?_
        refine lv_aload_nN hx hb d_p1m22_97 rfl (lv_at hl 4 rfl) ?_
        refine pd_cV (a := ru) (As := [.ref (G.2.2.2 16), .ref (G.2.2.2 16), .ref (A j), .null]) (rest := []) X w f24 rfl (c_Rules_best l G h20 (A := A) (B := B) (C := C) (n := n) (R := R) (k := k) (M := M) (u := u) (U := U) (v1 := 6) (v2 := 6) (j := j) (o := none) (by assumption) (by assumption) (by assumption) (by omega) (by omega) (by omega) (fun t ht => by cases ht)) ok_Rules_best ⟨mT_949, mT_950⟩ mT_948 ⟨by decide, by decide⟩ rfl hl.1 rfl (Nat.le_of_ble_eq_true rfl) d_p1m22_98 ⟨by decide, by decide⟩ (fun r42 h43 H locs hp44 w => ?_)
        refine W.widen (k := 0) (n := 0) (by decide) (by decide) ?_
        obtain ⟨e45, rfl⟩ := hp44
        refine pd_ostore (lv' := [(5, va_rf r42), (4, .int (nI 0)), (3, .ref (C i16)), (0, .ref x), (1, .ref (A j)), (2, .null)]) hx hb d_p1m22_101 hl (by decide) rfl (fun ls hl => ?_)
        refine pd_oload hx hb d_p1m22_103 (lv_at hl 0 rfl) ?_
        rcases pd_om e45 with ⟨q46, q49⟩ | ⟨i48, q46, q49⟩
        · -- none
          refine pd_top (v' := .null) (by rw [q49]; rfl) ?_
          rw [q49] at hl
          have hl : lv_has ls 6 [(5, .null), (4, .int (nI 0)), (3, .ref (C i16)), (0, .ref x), (1, .ref (A j)), (2, .null)] := hl
          refine lv_ifnonnullN hx hb d_p1m22_105 ?_
          refine lv_iconst (v := nI 1) hx hb d_p1m22_108 (by decide) ?_
          refine lv_goto (tgt := 117) hx hb d_p1m22_109 (by decide) ?_
          have hg : gr_wg R M u U j (none) = (nI 1, 1) := by unfold gr_wg; simp only [q14]; rw [if_neg (fun h9 => h9.elim hv5 (fun h8 => by rw [hnat] at h8; cases h8.1))]; simp only [q46]
          exact pd_iret (v := (nI 1)) X w ⟨by rw [hg], pd_kq.kx (k21) hx0, (by rw [hg]; exact ⟨lb, cl, me, ru, bk, f22, hz_x, f25, f26, f27, f28, f29, ht60⟩)⟩ (by decide) (by decide) d_p1m22_117
        · -- some
          refine pd_top (v' := .ref (C i48)) (by rw [q49]; rfl) ?_
          rw [q49] at hl
          have hl : lv_has ls 6 [(5, .ref (C i48)), (4, .int (nI 0)), (3, .ref (C i16)), (0, .ref x), (1, .ref (A j)), (2, .null)] := hl
          have i48lt := gr_bst_lt q46
          refine lv_ifnonnull (tgt := 112) hx hb d_p1m22_105 (by decide) ?_
          refine lv_aload hx hb d_p1m22_112 (lv_at hl 0 rfl) ?_
          obtain ⟨⟨pa52, f53, f54⟩, z55, z56, z57⟩ := f32 i48 (by omega)
          refine pd_get X w f53 rfl 2 (by decide) mT_908 rfl rfl d_p1m22_114 ?_
          have hg : gr_wg R M u U j (none) = (nI (U i48).2.2.1, 1) := by unfold gr_wg; simp only [q14]; rw [if_neg (fun h9 => h9.elim hv5 (fun h8 => by rw [hnat] at h8; cases h8.1))]; simp only [q46]
          exact pd_iret (v := (nI ((U i48).2.2.1))) X w ⟨by rw [hg], pd_kq.kx (k21) hx0, (by rw [hg]; exact ⟨lb, cl, me, ru, bk, f22, hz_x, f25, f26, f27, f28, f29, ht60⟩)⟩ (by decide) (by decide) d_p1m22_117
  · -- True
    subst q0
    have hl : lv_has ls 6 [(0, .ref x), (1, .ref (A j)), (2, .ref (B i9))] := hl
    have i9lt := ho i9 rfl
    refine lv_aload_n hx hb d_p1m22_0 rfl (lv_at hl 0 rfl) ?_
    refine pd_get X w hx0 rfl 3 (by decide) mT_370 rfl rfl d_p1m22_1 ?_
    refine pd_gets X w (List.mem_of_getElem? (i := 10) rfl) mT_964 d_p1m22_4 ?_
    refine pd_gets X w (List.mem_of_getElem? (i := 11) rfl) mT_966 d_p1m22_7 ?_
    refine lv_aload_n hx hb d_p1m22_10 rfl (lv_at hl 1 rfl) ?_
    refine lv_aload_n hx hb d_p1m22_11 rfl (lv_at hl 2 rfl) ?_
    obtain ⟨ar61, g62, f63, f64, g65, hz66, hz67, z68, f69⟩ := id hU
    refine pd_cV (a := ru) (As := [.ref (G.2.2.2 14), .ref (G.2.2.2 15), .ref (A j), .ref (B i9)]) (rest := []) X w f63 rfl (c_Rules_best l G h (A := A) (B := B) (C := C) (n := n) (R := R) (k := k) (M := M) (u := u) (U := U) (v1 := 4) (v2 := 5) (j := j) (o := some i9) (by assumption) (by assumption) (by assumption) (by omega) (by omega) (by omega) (fun t ht => by cases ht; omega)) ok_Rules_best ⟨mT_949, mT_950⟩ mT_948 ⟨by decide, by decide⟩ rfl hl.1 rfl (Nat.le_of_ble_eq_true rfl) d_p1m22_12 ⟨by decide, by decide⟩ (fun r58 h59 H locs hp60 w => ?_)
    refine W.widen (k := 0) (n := 0) (by decide) (by decide) ?_
    obtain ⟨e70, rfl⟩ := hp60
    refine pd_ostore_n (lv' := [(3, va_rf r58), (0, .ref x), (1, .ref (A j)), (2, .ref (B i9))]) hx hb d_p1m22_15 rfl hl (by decide) rfl (fun ls hl => ?_)
    refine pd_oload_n hx hb d_p1m22_16 rfl (lv_at hl 0 rfl) ?_
    rcases pd_om e70 with ⟨q71, q74⟩ | ⟨i73, q71, q74⟩
    · -- none
      refine pd_top (v' := .null) (by rw [q74]; rfl) ?_
      rw [q74] at hl
      have hl : lv_has ls 6 [(3, .null), (0, .ref x), (1, .ref (A j)), (2, .ref (B i9))] := hl
      refine lv_ifnonnullN hx hb d_p1m22_17 ?_
      refine lv_bipush (v := -7) hx hb d_p1m22_20 (by decide) ?_
      have hg : gr_wg R M u U j (some i9) = (-7, 0) := by unfold gr_wg; simp only [q71]
      exact pd_iret (v := (-7)) X w ⟨by rw [hg], pd_kx.rf, (by rw [hg]; exact ⟨lb, cl, me, ru, bk, hx0, hz_x, hsb, hC, hM, hU, hA, ht60⟩)⟩ (by decide) (by decide) d_p1m22_22
    · -- some
      refine pd_top (v' := .ref (C i73)) (by rw [q74]; rfl) ?_
      rw [q74] at hl
      have hl : lv_has ls 6 [(3, .ref (C i73)), (0, .ref x), (1, .ref (A j)), (2, .ref (B i9))] := hl
      have i73lt := gr_bst_lt q71
      refine lv_ifnonnull (tgt := 23) hx hb d_p1m22_17 (by decide) ?_
      refine lv_aload_n hx hb d_p1m22_23 rfl (lv_at hl 1 rfl) ?_
      refine lv_dup hx hb d_p1m22_24 rfl ?_
      refine pd_get X w hx0 rfl 9 (by decide) mT_376 rfl rfl d_p1m22_25 ?_
      refine lv_iconst (v := nI 1) hx hb d_p1m22_28 (by decide) ?_
      refine pd_iadd hx hb d_p1m22_29 ?_
      refine pd_put (ty := .int) X w hx0 hz_x rfl 9 (by decide) mT_376 rfl rfl (by decide +kernel) rfl rfl (Nat.le_of_ble_eq_true rfl) d_p1m22_30 (fun H locs w => ?_)
      have w : pd_w G s H locs (pd_up h x (5, .inr (0, [.ref lb, .ref cl, .ref me, .ref ru, .ref bk, .long sp, .int (nI an), .int (nI gn), .int (nI sn), .int (nI (dn + 1))]))) := w
      obtain ⟨h77, u80⟩ : ∃ z, z = pd_up h x (5, .inr (0, [.ref lb, .ref cl, .ref me, .ref ru, .ref bk, .long sp, .int (nI an), .int (nI gn), .int (nI sn), .int (nI (dn + 1))])) := ⟨_, rfl⟩
      rw [← u80] at w
      have k78 : pd_kq x h h77 := by rw [u80]; exact pd_up_kq
      have f79 : h77 x = some (5, .inr (0, [.ref lb, .ref cl, .ref me, .ref ru, .ref bk, .long sp, .int (nI an), .int (nI gn), .int (nI sn), .int (nI (dn + 1))])) := by rw [u80]; exact pd_up_s _ _ _
      have f81 := k78 _ _ (pd_ne f63 hx0 (by simp)) f63
      have f82 := hsb.kx (pd_kq.kx k78 hx0) (show (1 : Nat) ∉ [5] by decide) (show (2 : Nat) ∉ [5] by decide)
      have f83 := hC.kx (pd_kq.kx k78 hx0) (show (6 : Nat) ∉ [5] by decide) (show (10 : Nat) ∉ [5] by decide) (show (0 : Nat) ∉ [5] by decide)
      have f84 := hM.kx (pd_kq.kx k78 hx0) (show (11 : Nat) ∉ [5] by decide) (show (12 : Nat) ∉ [5] by decide) (show (0 : Nat) ∉ [5] by decide)
      have f85 := hU.kx (pd_kq.kx k78 hx0) (show (13 : Nat) ∉ [5] by decide) (show (14 : Nat) ∉ [5] by decide) (show (0 : Nat) ∉ [5] by decide)
      have f86 := hA.kx (pd_kq.kx k78 hx0) (show (15 : Nat) ∉ [5] by decide) (show (16 : Nat) ∉ [5] by decide) (show (17 : Nat) ∉ [5] by decide) (show (3 : Nat) ∉ [5] by decide) (show (4 : Nat) ∉ [5] by decide)
      have f87 := hR.kx (pd_kq.kx k78 hx0) (show (0 : Nat) ∉ [5] by decide)
      have f88 := hMR.kx (pd_kq.kx k78 hx0) (show (0 : Nat) ∉ [5] by decide)
      have f89 := hRR.kx (pd_kq.kx k78 hx0) (show (0 : Nat) ∉ [5] by decide)
      refine lv_aload_n hx hb d_p1m22_33 rfl (lv_at hl 3 rfl) ?_
      refine lv_ifnull hx hb d_p1m22_34 ?_
      refine lv_aload_n hx hb d_p1m22_37 rfl (lv_at hl 3 rfl) ?_
      obtain ⟨⟨nm91, sh92, f93, f94, f95⟩, z96, z97⟩ := f88 i9 (by omega)
      obtain ⟨v98, g99, f100, f101, gf102, gc103, gl104⟩ := id f94
      obtain ⟨v105, g106, f107, f108, gf109, gc110, gl111⟩ := id f95
      refine pd_get X w f93 rfl 4 (by decide) mT_824 rfl rfl d_p1m22_38 ?_
      refine pd_beq (tgt := 55) hx hb d_p1m22_41 (by decide) (fun q112 => ?_) (fun q112 => ?_)
      · -- taken: 55
        refine lv_iconst (v := nI 0) hx hb d_p1m22_55 (by decide) ?_
        have hnat : gr_nat M (some i9) = false := by show (gr_ism (M i9).2.2.1 && gr_mkb (M i9).2.2.2 2) = false; rw [q112]; rfl
        refine lv_istore (lv' := [(4, .int (nI 0)), (3, .ref (C i73)), (0, .ref x), (1, .ref (A j)), (2, .ref (B i9))]) hx hb d_p1m22_56 hl (by decide) rfl (fun ls hl => ?_)
        refine lv_aload_n hx hb d_p1m22_58 rfl (lv_at hl 1 rfl) ?_
        obtain ⟨⟨pa113, f114, f115⟩, z116, z117, z118⟩ := f89 i73 (by omega)
        refine pd_get X w f114 rfl 0 (by decide) mT_903 rfl rfl d_p1m22_59 ?_
        refine pd_gets X w (List.mem_of_getElem? (i := 11) rfl) mT_966 d_p1m22_62 ?_
        refine lv_acmp_eq (rx := (some (G.2.2.2 (10 + (U i73).1)))) (ry := (some (G.2.2.2 15))) (tgt := 83) hx hb d_p1m22_65 (by decide) (fun q119 => ?_) (fun q119 => ?_)
        · -- taken: 83
          have hv5 : (U i73).1 = 5 := ((pd_Kf_of X).2.2.2.2.2.2 _ 5 z116 (by decide) (Option.some.inj q119))
          refine lv_bipush (v := -7) hx hb d_p1m22_83 (by decide) ?_
          have hg : gr_wg R M u U j (some i9) = (-7, 1) := by unfold gr_wg; simp only [q71]; rw [if_pos (Or.inl hv5)]
          exact pd_iret (v := (-7)) X w ⟨by rw [hg], pd_kq.kx (k78) hx0, (by rw [hg]; exact ⟨lb, cl, me, ru, bk, f79, hz_x, f82, f83, f84, f85, f86, ht60⟩)⟩ (by decide) (by decide) d_p1m22_85
        · -- not taken: 68
          have hv5 : ¬ (U i73).1 = 5 := (fun e9 => q119 (by rw [e9]))
          refine lv_iload hx hb d_p1m22_68 (lv_at hl 0 rfl) ?_
          refine pd_zeq (tgt := 86) hx hb d_p1m22_70 (by decide) (by decide) (fun _ => ?_) (fun q => absurd q (by decide))
          refine lv_aload_n hx hb d_p1m22_86 rfl (lv_at hl 2 rfl) ?_
          refine pd_get X w f79 rfl 3 (by decide) mT_370 rfl rfl d_p1m22_87 ?_
          refine pd_gets X w (List.mem_of_getElem? (i := 12) rfl) mT_858 d_p1m22_90 ?_
          refine pd_gets X w (List.mem_of_getElem? (i := 12) rfl) mT_858 d_p1m22_93 ?_
          refine lv_aload_n hx hb d_p1m22_96 rfl (lv_at hl 3 rfl) ?_
          refine lv_aload_n hx hb d_p1m22_97 rfl (lv_at hl 4 rfl) ?_
          refine pd_cV (a := ru) (As := [.ref (G.2.2.2 16), .ref (G.2.2.2 16), .ref (A j), .ref (B i9)]) (rest := []) X w f81 rfl (c_Rules_best l G h77 (A := A) (B := B) (C := C) (n := n) (R := R) (k := k) (M := M) (u := u) (U := U) (v1 := 6) (v2 := 6) (j := j) (o := some i9) (by assumption) (by assumption) (by assumption) (by omega) (by omega) (by omega) (fun t ht => by cases ht; omega)) ok_Rules_best ⟨mT_949, mT_950⟩ mT_948 ⟨by decide, by decide⟩ rfl hl.1 rfl (Nat.le_of_ble_eq_true rfl) d_p1m22_98 ⟨by decide, by decide⟩ (fun r121 h122 H locs hp123 w => ?_)
          refine W.widen (k := 0) (n := 0) (by decide) (by decide) ?_
          obtain ⟨e124, rfl⟩ := hp123
          refine pd_ostore (lv' := [(5, va_rf r121), (4, .int (nI 0)), (3, .ref (C i73)), (0, .ref x), (1, .ref (A j)), (2, .ref (B i9))]) hx hb d_p1m22_101 hl (by decide) rfl (fun ls hl => ?_)
          refine pd_oload hx hb d_p1m22_103 (lv_at hl 0 rfl) ?_
          rcases pd_om e124 with ⟨q125, q128⟩ | ⟨i127, q125, q128⟩
          · -- none
            refine pd_top (v' := .null) (by rw [q128]; rfl) ?_
            rw [q128] at hl
            have hl : lv_has ls 6 [(5, .null), (4, .int (nI 0)), (3, .ref (C i73)), (0, .ref x), (1, .ref (A j)), (2, .ref (B i9))] := hl
            refine lv_ifnonnullN hx hb d_p1m22_105 ?_
            refine lv_iconst (v := nI 1) hx hb d_p1m22_108 (by decide) ?_
            refine lv_goto (tgt := 117) hx hb d_p1m22_109 (by decide) ?_
            have hg : gr_wg R M u U j (some i9) = (nI 1, 1) := by unfold gr_wg; simp only [q71]; rw [if_neg (fun h9 => h9.elim hv5 (fun h8 => by rw [hnat] at h8; cases h8.1))]; simp only [q125]
            exact pd_iret (v := (nI 1)) X w ⟨by rw [hg], pd_kq.kx (k78) hx0, (by rw [hg]; exact ⟨lb, cl, me, ru, bk, f79, hz_x, f82, f83, f84, f85, f86, ht60⟩)⟩ (by decide) (by decide) d_p1m22_117
          · -- some
            refine pd_top (v' := .ref (C i127)) (by rw [q128]; rfl) ?_
            rw [q128] at hl
            have hl : lv_has ls 6 [(5, .ref (C i127)), (4, .int (nI 0)), (3, .ref (C i73)), (0, .ref x), (1, .ref (A j)), (2, .ref (B i9))] := hl
            have i127lt := gr_bst_lt q125
            refine lv_ifnonnull (tgt := 112) hx hb d_p1m22_105 (by decide) ?_
            refine lv_aload hx hb d_p1m22_112 (lv_at hl 0 rfl) ?_
            obtain ⟨⟨pa131, f132, f133⟩, z134, z135, z136⟩ := f89 i127 (by omega)
            refine pd_get X w f132 rfl 2 (by decide) mT_908 rfl rfl d_p1m22_114 ?_
            have hg : gr_wg R M u U j (some i9) = (nI (U i127).2.2.1, 1) := by unfold gr_wg; simp only [q71]; rw [if_neg (fun h9 => h9.elim hv5 (fun h8 => by rw [hnat] at h8; cases h8.1))]; simp only [q125]
            exact pd_iret (v := (nI ((U i127).2.2.1))) X w ⟨by rw [hg], pd_kq.kx (k78) hx0, (by rw [hg]; exact ⟨lb, cl, me, ru, bk, f79, hz_x, f82, f83, f84, f85, f86, ht60⟩)⟩ (by decide) (by decide) d_p1m22_117
      · -- not taken: 44
        refine lv_aload_n hx hb d_p1m22_44 rfl (lv_at hl 3 rfl) ?_
        refine pd_cV (a := (B i9)) (As := []) (rest := []) X w f93 rfl (c_MemberRow_isNative l G h77 (by assumption) (by omega)) ok_MemberRow_isNative ⟨mT_969, mT_970⟩ mT_968 ⟨by decide, by decide⟩ rfl hl.1 rfl (Nat.le_of_ble_eq_true rfl) d_p1m22_45 ⟨by decide, by decide⟩ (fun r137 h138 H locs hp139 w => ?_)
        refine W.widen (k := 0) (n := 0) (by decide) (by decide) ?_
        obtain ⟨e140, rfl⟩ := hp139
        refine pd_beq (tgt := 55) hx hb d_p1m22_48 (by decide) (fun q141 => ?_) (fun q141 => ?_)
        · -- taken: 55
          refine lv_iconst (v := nI 0) hx hb d_p1m22_55 (by decide) ?_
          have hnat : gr_nat M (some i9) = false := by show (gr_ism (M i9).2.2.1 && gr_mkb (M i9).2.2.2 2) = false; rw [q112, ← e140, q141]; rfl
          refine lv_istore (lv' := [(4, .int (nI 0)), (3, .ref (C i73)), (0, .ref x), (1, .ref (A j)), (2, .ref (B i9))]) hx hb d_p1m22_56 hl (by decide) rfl (fun ls hl => ?_)
          refine lv_aload_n hx hb d_p1m22_58 rfl (lv_at hl 1 rfl) ?_
          obtain ⟨⟨pa142, f143, f144⟩, z145, z146, z147⟩ := f89 i73 (by omega)
          refine pd_get X w f143 rfl 0 (by decide) mT_903 rfl rfl d_p1m22_59 ?_
          refine pd_gets X w (List.mem_of_getElem? (i := 11) rfl) mT_966 d_p1m22_62 ?_
          refine lv_acmp_eq (rx := (some (G.2.2.2 (10 + (U i73).1)))) (ry := (some (G.2.2.2 15))) (tgt := 83) hx hb d_p1m22_65 (by decide) (fun q148 => ?_) (fun q148 => ?_)
          · -- taken: 83
            have hv5 : (U i73).1 = 5 := ((pd_Kf_of X).2.2.2.2.2.2 _ 5 z145 (by decide) (Option.some.inj q148))
            refine lv_bipush (v := -7) hx hb d_p1m22_83 (by decide) ?_
            have hg : gr_wg R M u U j (some i9) = (-7, 1) := by unfold gr_wg; simp only [q71]; rw [if_pos (Or.inl hv5)]
            exact pd_iret (v := (-7)) X w ⟨by rw [hg], pd_kq.kx (k78) hx0, (by rw [hg]; exact ⟨lb, cl, me, ru, bk, f79, hz_x, f82, f83, f84, f85, f86, ht60⟩)⟩ (by decide) (by decide) d_p1m22_85
          · -- not taken: 68
            have hv5 : ¬ (U i73).1 = 5 := (fun e9 => q148 (by rw [e9]))
            refine lv_iload hx hb d_p1m22_68 (lv_at hl 0 rfl) ?_
            refine pd_zeq (tgt := 86) hx hb d_p1m22_70 (by decide) (by decide) (fun _ => ?_) (fun q => absurd q (by decide))
            refine lv_aload_n hx hb d_p1m22_86 rfl (lv_at hl 2 rfl) ?_
            refine pd_get X w f79 rfl 3 (by decide) mT_370 rfl rfl d_p1m22_87 ?_
            refine pd_gets X w (List.mem_of_getElem? (i := 12) rfl) mT_858 d_p1m22_90 ?_
            refine pd_gets X w (List.mem_of_getElem? (i := 12) rfl) mT_858 d_p1m22_93 ?_
            refine lv_aload_n hx hb d_p1m22_96 rfl (lv_at hl 3 rfl) ?_
            refine lv_aload_n hx hb d_p1m22_97 rfl (lv_at hl 4 rfl) ?_
            refine pd_cV (a := ru) (As := [.ref (G.2.2.2 16), .ref (G.2.2.2 16), .ref (A j), .ref (B i9)]) (rest := []) X w f81 rfl (c_Rules_best l G h77 (A := A) (B := B) (C := C) (n := n) (R := R) (k := k) (M := M) (u := u) (U := U) (v1 := 6) (v2 := 6) (j := j) (o := some i9) (by assumption) (by assumption) (by assumption) (by omega) (by omega) (by omega) (fun t ht => by cases ht; omega)) ok_Rules_best ⟨mT_949, mT_950⟩ mT_948 ⟨by decide, by decide⟩ rfl hl.1 rfl (Nat.le_of_ble_eq_true rfl) d_p1m22_98 ⟨by decide, by decide⟩ (fun r150 h151 H locs hp152 w => ?_)
            refine W.widen (k := 0) (n := 0) (by decide) (by decide) ?_
            obtain ⟨e153, rfl⟩ := hp152
            refine pd_ostore (lv' := [(5, va_rf r150), (4, .int (nI 0)), (3, .ref (C i73)), (0, .ref x), (1, .ref (A j)), (2, .ref (B i9))]) hx hb d_p1m22_101 hl (by decide) rfl (fun ls hl => ?_)
            refine pd_oload hx hb d_p1m22_103 (lv_at hl 0 rfl) ?_
            rcases pd_om e153 with ⟨q154, q157⟩ | ⟨i156, q154, q157⟩
            · -- none
              refine pd_top (v' := .null) (by rw [q157]; rfl) ?_
              rw [q157] at hl
              have hl : lv_has ls 6 [(5, .null), (4, .int (nI 0)), (3, .ref (C i73)), (0, .ref x), (1, .ref (A j)), (2, .ref (B i9))] := hl
              refine lv_ifnonnullN hx hb d_p1m22_105 ?_
              refine lv_iconst (v := nI 1) hx hb d_p1m22_108 (by decide) ?_
              refine lv_goto (tgt := 117) hx hb d_p1m22_109 (by decide) ?_
              have hg : gr_wg R M u U j (some i9) = (nI 1, 1) := by unfold gr_wg; simp only [q71]; rw [if_neg (fun h9 => h9.elim hv5 (fun h8 => by rw [hnat] at h8; cases h8.1))]; simp only [q154]
              exact pd_iret (v := (nI 1)) X w ⟨by rw [hg], pd_kq.kx (k78) hx0, (by rw [hg]; exact ⟨lb, cl, me, ru, bk, f79, hz_x, f82, f83, f84, f85, f86, ht60⟩)⟩ (by decide) (by decide) d_p1m22_117
            · -- some
              refine pd_top (v' := .ref (C i156)) (by rw [q157]; rfl) ?_
              rw [q157] at hl
              have hl : lv_has ls 6 [(5, .ref (C i156)), (4, .int (nI 0)), (3, .ref (C i73)), (0, .ref x), (1, .ref (A j)), (2, .ref (B i9))] := hl
              have i156lt := gr_bst_lt q154
              refine lv_ifnonnull (tgt := 112) hx hb d_p1m22_105 (by decide) ?_
              refine lv_aload hx hb d_p1m22_112 (lv_at hl 0 rfl) ?_
              obtain ⟨⟨pa160, f161, f162⟩, z163, z164, z165⟩ := f89 i156 (by omega)
              refine pd_get X w f161 rfl 2 (by decide) mT_908 rfl rfl d_p1m22_114 ?_
              have hg : gr_wg R M u U j (some i9) = (nI (U i156).2.2.1, 1) := by unfold gr_wg; simp only [q71]; rw [if_neg (fun h9 => h9.elim hv5 (fun h8 => by rw [hnat] at h8; cases h8.1))]; simp only [q154]
              exact pd_iret (v := (nI ((U i156).2.2.1))) X w ⟨by rw [hg], pd_kq.kx (k78) hx0, (by rw [hg]; exact ⟨lb, cl, me, ru, bk, f79, hz_x, f82, f83, f84, f85, f86, ht60⟩)⟩ (by decide) (by decide) d_p1m22_117
        · -- not taken: 51
          refine lv_iconst (v := nI 1) hx hb d_p1m22_51 (by decide) ?_
          refine lv_goto (tgt := 56) hx hb d_p1m22_52 (by decide) ?_
          have hnat : gr_nat M (some i9) = true := by show (gr_ism (M i9).2.2.1 && gr_mkb (M i9).2.2.2 2) = true; rw [q112, ← e140, q141]; rfl
          refine lv_istore (lv' := [(4, .int (nI 1)), (3, .ref (C i73)), (0, .ref x), (1, .ref (A j)), (2, .ref (B i9))]) hx hb d_p1m22_56 hl (by decide) rfl (fun ls hl => ?_)
          refine lv_aload_n hx hb d_p1m22_58 rfl (lv_at hl 1 rfl) ?_
          obtain ⟨⟨pa166, f167, f168⟩, z169, z170, z171⟩ := f89 i73 (by omega)
          refine pd_get X w f167 rfl 0 (by decide) mT_903 rfl rfl d_p1m22_59 ?_
          refine pd_gets X w (List.mem_of_getElem? (i := 11) rfl) mT_966 d_p1m22_62 ?_
          refine lv_acmp_eq (rx := (some (G.2.2.2 (10 + (U i73).1)))) (ry := (some (G.2.2.2 15))) (tgt := 83) hx hb d_p1m22_65 (by decide) (fun q172 => ?_) (fun q172 => ?_)
          · -- taken: 83
            have hv5 : (U i73).1 = 5 := ((pd_Kf_of X).2.2.2.2.2.2 _ 5 z169 (by decide) (Option.some.inj q172))
            refine lv_bipush (v := -7) hx hb d_p1m22_83 (by decide) ?_
            have hg : gr_wg R M u U j (some i9) = (-7, 1) := by unfold gr_wg; simp only [q71]; rw [if_pos (Or.inl hv5)]
            exact pd_iret (v := (-7)) X w ⟨by rw [hg], pd_kq.kx (k78) hx0, (by rw [hg]; exact ⟨lb, cl, me, ru, bk, f79, hz_x, f82, f83, f84, f85, f86, ht60⟩)⟩ (by decide) (by decide) d_p1m22_85
          · -- not taken: 68
            have hv5 : ¬ (U i73).1 = 5 := (fun e9 => q172 (by rw [e9]))
            refine lv_iload hx hb d_p1m22_68 (lv_at hl 0 rfl) ?_
            refine pd_zeq (tgt := 86) hx hb d_p1m22_70 (by decide) (by decide) (fun q => absurd q (by decide)) (fun _ => ?_)
            refine lv_aload_n hx hb d_p1m22_73 rfl (lv_at hl 1 rfl) ?_
            refine pd_get X w f167 rfl 1 (by decide) mT_906 rfl rfl d_p1m22_74 ?_
            obtain ⟨nm174, mn175, f176, f177, f178⟩ := id f168
            obtain ⟨v179, g180, f181, f182, gf183, gc184, gl185⟩ := id f177
            obtain ⟨v186, g187, f188, f189, gf190, gc191, gl192⟩ := id f178
            have nm174rl := gr_rank_lt gl185
            have nm174bl := gr_bh_le ((U i73).2.1)
            have nm174cl := gr_rch_le ((U i73).2.1)
            refine pd_cV (a := pa166) (As := []) (rest := []) X w f176 rfl (c_Pattern_namesMember l G h77 (by assumption)) ok_Pattern_namesMember ⟨mT_973, mT_974⟩ mT_972 ⟨by decide, by decide⟩ rfl hl.1 rfl (Nat.le_of_ble_eq_true rfl) d_p1m22_77 ⟨by decide, by decide⟩ (fun r193 h194 H locs hp195 w => ?_)
            refine W.widen (k := 0) (n := 0) (by decide) (by decide) ?_
            obtain ⟨e196, rfl⟩ := hp195
            refine pd_bne (tgt := 86) hx hb d_p1m22_80 (by decide) (fun q197 => ?_) (fun q197 => ?_)
            · -- taken: 86
              refine lv_aload_n hx hb d_p1m22_86 rfl (lv_at hl 2 rfl) ?_
              refine pd_get X w f79 rfl 3 (by decide) mT_370 rfl rfl d_p1m22_87 ?_
              refine pd_gets X w (List.mem_of_getElem? (i := 12) rfl) mT_858 d_p1m22_90 ?_
              refine pd_gets X w (List.mem_of_getElem? (i := 12) rfl) mT_858 d_p1m22_93 ?_
              refine lv_aload_n hx hb d_p1m22_96 rfl (lv_at hl 3 rfl) ?_
              refine lv_aload_n hx hb d_p1m22_97 rfl (lv_at hl 4 rfl) ?_
              refine pd_cV (a := ru) (As := [.ref (G.2.2.2 16), .ref (G.2.2.2 16), .ref (A j), .ref (B i9)]) (rest := []) X w f81 rfl (c_Rules_best l G h77 (A := A) (B := B) (C := C) (n := n) (R := R) (k := k) (M := M) (u := u) (U := U) (v1 := 6) (v2 := 6) (j := j) (o := some i9) (by assumption) (by assumption) (by assumption) (by omega) (by omega) (by omega) (fun t ht => by cases ht; omega)) ok_Rules_best ⟨mT_949, mT_950⟩ mT_948 ⟨by decide, by decide⟩ rfl hl.1 rfl (Nat.le_of_ble_eq_true rfl) d_p1m22_98 ⟨by decide, by decide⟩ (fun r198 h199 H locs hp200 w => ?_)
              refine W.widen (k := 0) (n := 0) (by decide) (by decide) ?_
              obtain ⟨e201, rfl⟩ := hp200
              refine pd_ostore (lv' := [(5, va_rf r198), (4, .int (nI 1)), (3, .ref (C i73)), (0, .ref x), (1, .ref (A j)), (2, .ref (B i9))]) hx hb d_p1m22_101 hl (by decide) rfl (fun ls hl => ?_)
              refine pd_oload hx hb d_p1m22_103 (lv_at hl 0 rfl) ?_
              rcases pd_om e201 with ⟨q202, q205⟩ | ⟨i204, q202, q205⟩
              · -- none
                refine pd_top (v' := .null) (by rw [q205]; rfl) ?_
                rw [q205] at hl
                have hl : lv_has ls 6 [(5, .null), (4, .int (nI 1)), (3, .ref (C i73)), (0, .ref x), (1, .ref (A j)), (2, .ref (B i9))] := hl
                refine lv_ifnonnullN hx hb d_p1m22_105 ?_
                refine lv_iconst (v := nI 1) hx hb d_p1m22_108 (by decide) ?_
                refine lv_goto (tgt := 117) hx hb d_p1m22_109 (by decide) ?_
                have hg : gr_wg R M u U j (some i9) = (nI 1, 1) := by unfold gr_wg; simp only [q71]; rw [if_neg (fun h9 => h9.elim hv5 (fun h8 => h8.2 (of_decide_eq_true (e196.symm.trans q197))))]; simp only [q202]
                exact pd_iret (v := (nI 1)) X w ⟨by rw [hg], pd_kq.kx (k78) hx0, (by rw [hg]; exact ⟨lb, cl, me, ru, bk, f79, hz_x, f82, f83, f84, f85, f86, ht60⟩)⟩ (by decide) (by decide) d_p1m22_117
              · -- some
                refine pd_top (v' := .ref (C i204)) (by rw [q205]; rfl) ?_
                rw [q205] at hl
                have hl : lv_has ls 6 [(5, .ref (C i204)), (4, .int (nI 1)), (3, .ref (C i73)), (0, .ref x), (1, .ref (A j)), (2, .ref (B i9))] := hl
                have i204lt := gr_bst_lt q202
                refine lv_ifnonnull (tgt := 112) hx hb d_p1m22_105 (by decide) ?_
                refine lv_aload hx hb d_p1m22_112 (lv_at hl 0 rfl) ?_
                obtain ⟨⟨pa208, f209, f210⟩, z211, z212, z213⟩ := f89 i204 (by omega)
                refine pd_get X w f209 rfl 2 (by decide) mT_908 rfl rfl d_p1m22_114 ?_
                have hg : gr_wg R M u U j (some i9) = (nI (U i204).2.2.1, 1) := by unfold gr_wg; simp only [q71]; rw [if_neg (fun h9 => h9.elim hv5 (fun h8 => h8.2 (of_decide_eq_true (e196.symm.trans q197))))]; simp only [q202]
                exact pd_iret (v := (nI ((U i204).2.2.1))) X w ⟨by rw [hg], pd_kq.kx (k78) hx0, (by rw [hg]; exact ⟨lb, cl, me, ru, bk, f79, hz_x, f82, f83, f84, f85, f86, ht60⟩)⟩ (by decide) (by decide) d_p1m22_117
            · -- not taken: 83
              refine lv_bipush (v := -7) hx hb d_p1m22_83 (by decide) ?_
              have hg : gr_wg R M u U j (some i9) = (-7, 1) := by unfold gr_wg; simp only [q71]; rw [if_pos (Or.inr ⟨hnat, of_decide_eq_false (e196.symm.trans q197)⟩)]
              exact pd_iret (v := (-7)) X w ⟨by rw [hg], pd_kq.kx (k78) hx0, (by rw [hg]; exact ⟨lb, cl, me, ru, bk, f79, hz_x, f82, f83, f84, f85, f86, ht60⟩)⟩ (by decide) (by decide) d_p1m22_85
