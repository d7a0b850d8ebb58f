/-! declarations -/
theorem gr_mk_lt (cs : List Nat) : gr_mk cs < 4 := by
  unfold gr_mk
  split <;> split <;> decide
theorem gr_madd_le {k : Nat} {M : Nat → pd_mr} {r : pd_mr} : k ≤ (gr_madd k M r).2.1 := by
  unfold gr_madd
  split
  · exact Nat.le_succ _
  · exact Nat.le_refl _
theorem gr_cadd_le {n : Nat} {R : Nat → pd_cr} {r : pd_cr} : n ≤ (gr_cadd n R r).2.1 := by
  unfold gr_cadd
  split
  · exact Nat.le_succ _
  · exact Nat.le_refl _
def gr_dm (n : Nat) (R : Nat → pd_cr) (k : Nat) (M : Nat → pd_mr) (cs : List Nat) : Int32 × Nat × (Nat → pd_mr) := match gr_find R n (gr_bd (gr_w cs 1)) with
  | none => (-2, k, M)
  | some j => match gr_decl M k j (gr_ad (gr_w cs 1)) (gr_w cs 2) with
    | some _ => (-3, k, M)
    | none => if gr_ad (gr_w cs 1) = [102, 105, 110, 97, 108, 105, 122, 101] ∧ gr_w cs 2 = [40, 41, 86] then (-4, k, M) else gr_madd k M (j, gr_ad (gr_w cs 1), gr_w cs 2, gr_mk (gr_w cs 3))
def gr_si (n : Nat) (R : Nat → pd_cr) (k : Nat) (M : Nat → pd_mr) (ws : List Nat) : Option Nat := match gr_find R n (gr_bd ws) with
  | none => none
  | some j => gr_fm M k j (gr_ad ws)
theorem gr_si_lt {n : Nat} {R : Nat → pd_cr} {k : Nat} {M : Nat → pd_mr} {ws : List Nat} {b : Nat} (h : gr_si n R k M ws = some b) : b < k := by
  unfold gr_si at h
  split at h
  · cases h
  · exact gr_fi_lt h
def gr_dr (n : Nat) (R : Nat → pd_cr) (k : Nat) (M : Nat → pd_mr) (u : Nat) (U : Nat → pd_rr) (cs : List Nat) (v : Nat) : Int32 × Nat × (Nat → pd_rr) := if v = 7 then (match gr_si n R k M (gr_w cs 2) with
    | none => (-2, u, U)
    | some b => if gr_mkb (M b).2.2.2 1 = true then gr_radd u U (v, gr_w cs 1, 0, some b) else (-4, u, U)) else gr_radd u U (v, gr_w cs 1, (if v = 6 then gr_num (gr_w cs 2) else 0), none)
theorem d_p1m16_0 : decode prog_1_method_16_code 0 = .ok (.aload_n 0, 1) := by decide +kernel
theorem d_p1m16_1 : decode prog_1_method_16_code 1 = .ok (.getfield 19, 3) := by decide +kernel
theorem d_p1m16_4 : decode prog_1_method_16_code 4 = .ok (.aload_n 1, 1) := by decide +kernel
theorem d_p1m16_5 : decode prog_1_method_16_code 5 = .ok (.iconst 1, 1) := by decide +kernel
theorem d_p1m16_6 : decode prog_1_method_16_code 6 = .ok (.invokevirtual 73, 3) := by decide +kernel
theorem d_p1m16_9 : decode prog_1_method_16_code 9 = .ok (.invokestatic 211, 3) := by decide +kernel
theorem d_p1m16_12 : decode prog_1_method_16_code 12 = .ok (.invokevirtual 197, 3) := by decide +kernel
theorem d_p1m16_15 : decode prog_1_method_16_code 15 = .ok (.astore_n 2, 1) := by decide +kernel
theorem d_p1m16_16 : decode prog_1_method_16_code 16 = .ok (.aload_n 2, 1) := by decide +kernel
theorem d_p1m16_17 : decode prog_1_method_16_code 17 = .ok (.ifnonnull 6, 3) := by decide +kernel
theorem d_p1m16_20 : decode prog_1_method_16_code 20 = .ok (.bipush (-2), 2) := by decide +kernel
theorem d_p1m16_22 : decode prog_1_method_16_code 22 = .ok (.ireturn, 1) := by decide +kernel
theorem d_p1m16_23 : decode prog_1_method_16_code 23 = .ok (.aload_n 1, 1) := by decide +kernel
theorem d_p1m16_24 : decode prog_1_method_16_code 24 = .ok (.iconst 1, 1) := by decide +kernel
theorem d_p1m16_25 : decode prog_1_method_16_code 25 = .ok (.invokevirtual 73, 3) := by decide +kernel
theorem d_p1m16_28 : decode prog_1_method_16_code 28 = .ok (.invokestatic 215, 3) := by decide +kernel
theorem d_p1m16_31 : decode prog_1_method_16_code 31 = .ok (.astore_n 3, 1) := by decide +kernel
theorem d_p1m16_32 : decode prog_1_method_16_code 32 = .ok (.aload_n 1, 1) := by decide +kernel
theorem d_p1m16_33 : decode prog_1_method_16_code 33 = .ok (.iconst 2, 1) := by decide +kernel
theorem d_p1m16_34 : decode prog_1_method_16_code 34 = .ok (.invokevirtual 73, 3) := by decide +kernel
theorem d_p1m16_37 : decode prog_1_method_16_code 37 = .ok (.astore 4, 2) := by decide +kernel
theorem d_p1m16_39 : decode prog_1_method_16_code 39 = .ok (.aload_n 0, 1) := by decide +kernel
theorem d_p1m16_40 : decode prog_1_method_16_code 40 = .ok (.getfield 26, 3) := by decide +kernel
theorem d_p1m16_43 : decode prog_1_method_16_code 43 = .ok (.aload_n 2, 1) := by decide +kernel
theorem d_p1m16_44 : decode prog_1_method_16_code 44 = .ok (.aload_n 3, 1) := by decide +kernel
theorem d_p1m16_45 : decode prog_1_method_16_code 45 = .ok (.aload 4, 2) := by decide +kernel
theorem d_p1m16_47 : decode prog_1_method_16_code 47 = .ok (.invokevirtual 218, 3) := by decide +kernel
theorem d_p1m16_50 : decode prog_1_method_16_code 50 = .ok (.ifnull 6, 3) := by decide +kernel
theorem d_p1m16_53 : decode prog_1_method_16_code 53 = .ok (.bipush (-3), 2) := by decide +kernel
theorem d_p1m16_55 : decode prog_1_method_16_code 55 = .ok (.ireturn, 1) := by decide +kernel
theorem d_p1m16_56 : decode prog_1_method_16_code 56 = .ok (.aload_n 3, 1) := by decide +kernel
theorem d_p1m16_57 : decode prog_1_method_16_code 57 = .ok (.ldc 222, 2) := by decide +kernel
theorem d_p1m16_59 : decode prog_1_method_16_code 59 = .ok (.invokevirtual 224, 3) := by decide +kernel
theorem d_p1m16_62 : decode prog_1_method_16_code 62 = .ok (.ifCond .eq 16, 3) := by decide +kernel
theorem d_p1m16_65 : decode prog_1_method_16_code 65 = .ok (.aload 4, 2) := by decide +kernel
theorem d_p1m16_67 : decode prog_1_method_16_code 67 = .ok (.ldc 228, 2) := by decide +kernel
theorem d_p1m16_69 : decode prog_1_method_16_code 69 = .ok (.invokevirtual 224, 3) := by decide +kernel
theorem d_p1m16_72 : decode prog_1_method_16_code 72 = .ok (.ifCond .eq 6, 3) := by decide +kernel
theorem d_p1m16_75 : decode prog_1_method_16_code 75 = .ok (.bipush (-4), 2) := by decide +kernel
theorem d_p1m16_77 : decode prog_1_method_16_code 77 = .ok (.ireturn, 1) := by decide +kernel
theorem d_p1m16_78 : decode prog_1_method_16_code 78 = .ok (.aload_n 0, 1) := by decide +kernel
theorem d_p1m16_79 : decode prog_1_method_16_code 79 = .ok (.getfield 26, 3) := by decide +kernel
theorem d_p1m16_82 : decode prog_1_method_16_code 82 = .ok (.aload_n 2, 1) := by decide +kernel
theorem d_p1m16_83 : decode prog_1_method_16_code 83 = .ok (.aload_n 3, 1) := by decide +kernel
theorem d_p1m16_84 : decode prog_1_method_16_code 84 = .ok (.aload 4, 2) := by decide +kernel
theorem d_p1m16_86 : decode prog_1_method_16_code 86 = .ok (.aload_n 1, 1) := by decide +kernel
theorem d_p1m16_87 : decode prog_1_method_16_code 87 = .ok (.iconst 3, 1) := by decide +kernel
theorem d_p1m16_88 : decode prog_1_method_16_code 88 = .ok (.invokevirtual 73, 3) := by decide +kernel
theorem d_p1m16_91 : decode prog_1_method_16_code 91 = .ok (.invokestatic 229, 3) := by decide +kernel
theorem d_p1m16_94 : decode prog_1_method_16_code 94 = .ok (.invokevirtual 233, 3) := by decide +kernel
theorem d_p1m16_97 : decode prog_1_method_16_code 97 = .ok (.ireturn, 1) := by decide +kernel
abbrev y_PolicyDesk_declareMember : MethodName := ⟨"PolicyDesk", "declareMember", "(LPolicyDesk$Line;)I"⟩
theorem ok_PolicyDesk_declareMember : pd_ok y_PolicyDesk_declareMember prog_1_method_16_code 5 (some .int) 1 := ⟨mT_787, mT_1, by decide, by decide +kernel⟩
abbrev rm_PolicyDesk_declareMember : Room := { frames := 7, cells := 13, slots := 390, locals := 174 }
set_option maxHeartbeats 4000000 in
set_option maxRecDepth 100000 in
theorem c_PolicyDesk_declareMember (l : Launch) (G : pd_G) (h : pd_H) {x : Nat} {A B C : Nat → Nat} {t0 : List Nat} {n : Nat} {R : Nat → pd_cr} {k : Nat} {M : Nat → pd_mr} {u : Nat} {U : Nat → pd_rr} {T : Nat → List Nat} {kp nx : Nat} {sp : Int64} {an gn sn dn : Nat} {y : Nat} {cs : List Nat} (hD : pd_DX G h x A B C t0 n R k M u U T kp nx sp an gn sn dn) (hL : pd_Ln h y cs) : pd_M l y_PolicyDesk_declareMember prog_1_method_16_code 5 (some .int) rm_PolicyDesk_declareMember G h [.ref x, .ref y] Value.int (fun r h1 => r = (gr_dm n R k M cs).1 ∧ pd_kx [9, 11, 12] h h1 ∧ ∃ B2, pd_DX G h1 x A B2 C t0 n R ((gr_dm n R k M cs).2.1) ((gr_dm n R k M cs).2.2) u U T kp nx sp an gn sn dn) := by
  refine pd_M.of (by decide) (Nat.le_of_ble_eq_true rfl) ?_
  intro p e s m below meth c X hmn w ls hl
  have hx := X.1
  have hb := X.2.1
  have hl : lv_has ls 5 [(0, .ref x), (1, .ref y)] := hl
  obtain ⟨lb, cl, me, ru, bk, hx0, hz_x, hsb, hC, hM, hU, hA, ht60⟩ := id hD
  have hR := hC.rows
  have hMR := hM.mrows
  have hRR := hU.rrows
  have hcw := hR.2.2
  have hAi := hR.2.1
  have hn14 := hcw.1
  have ht21 : (2 : Nat) ≠ 1 := by decide
  have ht10 : (1 : Nat) ≠ 0 := by decide
  have ht20 : (2 : Nat) ≠ 0 := by decide
  refine lv_aload_n hx hb d_p1m16_0 rfl (lv_at hl 0 rfl) ?_
  refine pd_get X w hx0 rfl 1 (by decide) mT_368 rfl rfl d_p1m16_1 ?_
  refine lv_aload_n hx hb d_p1m16_4 rfl (lv_at hl 1 rfl) ?_
  refine lv_iconst (v := nI 1) hx hb d_p1m16_5 (by decide) ?_
  obtain ⟨a4, st5, fA6, f7, f8, nu9, f10⟩ := id hL
  have hc11 := (gr_cut_ok cs).1
  obtain ⟨v12, g13, f14, f15, gf16, gc17, gl18⟩ := id f10
  refine pd_cV (a := y) (As := [.int (nI 1)]) (rest := [.ref cl]) X w f7 rfl (c_Line_word l G h (by assumption) (by omega)) ok_Line_word ⟨mT_574, mT_575⟩ mT_573 ⟨by decide, by decide⟩ rfl hl.1 rfl (Nat.le_of_ble_eq_true rfl) d_p1m16_6 ⟨by decide, by decide⟩ (fun r1 h2 H locs hp3 w => ?_)
  refine W.widen (k := 2) (n := 64) (by decide) (by decide) ?_
  obtain ⟨k19, ds20, e21, f22⟩ := hp3
  have f30 := k19 _ _ hx0 List.not_mem_nil
  have f31 := k19 _ _ f7 List.not_mem_nil
  have f32 := k19 _ _ f14 List.not_mem_nil
  have f33 := k19 _ _ f15 List.not_mem_nil
  have f34 := hsb.kx k19 List.not_mem_nil List.not_mem_nil
  have f35 := hC.kx k19 List.not_mem_nil List.not_mem_nil List.not_mem_nil
  have f36 := hM.kx k19 List.not_mem_nil List.not_mem_nil List.not_mem_nil
  have f37 := hU.kx k19 List.not_mem_nil List.not_mem_nil List.not_mem_nil
  have f38 := hA.kx k19 List.not_mem_nil List.not_mem_nil List.not_mem_nil List.not_mem_nil List.not_mem_nil
  have f39 := hR.kx k19 List.not_mem_nil
  have f40 := hMR.kx k19 List.not_mem_nil
  have f41 := hRR.kx k19 List.not_mem_nil
  have f42 := hL.kx k19 List.not_mem_nil
  have f43 := f10.kx k19 List.not_mem_nil
  obtain ⟨v23, g24, f25, f26, gf27, gc28, gl29⟩ := id f22
  subst e21
  refine pd_cS (As := [.ref r1]) (rest := [.ref cl]) X w (c_Grammar_beforeDot l G h2 (by assumption)) ok_Grammar_beforeDot mT_714 mT_788 ⟨by decide, by decide⟩ rfl hl.1 rfl (Nat.le_of_ble_eq_true rfl) d_p1m16_9 ⟨by decide, by decide⟩ (fun r44 h45 H locs hp46 w => ?_)
  refine W.widen (k := 4) (n := 128) (by decide) (by decide) ?_
  obtain ⟨k47, ds48, e49, f50⟩ := hp46
  have f58 := k47 _ _ f30 List.not_mem_nil
  have f59 := k47 _ _ f31 List.not_mem_nil
  have f60 := k47 _ _ f32 List.not_mem_nil
  have f61 := k47 _ _ f25 List.not_mem_nil
  have f62 := k47 _ _ f33 List.not_mem_nil
  have f63 := k47 _ _ f26 List.not_mem_nil
  have f64 := f34.kx k47 List.not_mem_nil List.not_mem_nil
  have f65 := f35.kx k47 List.not_mem_nil List.not_mem_nil List.not_mem_nil
  have f66 := f36.kx k47 List.not_mem_nil List.not_mem_nil List.not_mem_nil
  have f67 := f37.kx k47 List.not_mem_nil List.not_mem_nil List.not_mem_nil
  have f68 := f38.kx k47 List.not_mem_nil List.not_mem_nil List.not_mem_nil List.not_mem_nil List.not_mem_nil
  have f69 := f39.kx k47 List.not_mem_nil
  have f70 := f40.kx k47 List.not_mem_nil
  have f71 := f41.kx k47 List.not_mem_nil
  have f72 := f42.kx k47 List.not_mem_nil
  have f73 := f43.kx k47 List.not_mem_nil
  have f74 := f22.kx k47 List.not_mem_nil
  obtain ⟨v51, g52, f53, f54, gf55, gc56, gl57⟩ := id f50
  subst e49
  obtain ⟨ar78, g79, f80, f81, g82, hz83, hz84, z85, f86⟩ := id f65
  refine pd_cV (a := cl) (As := [.ref r44]) (rest := []) X w f80 rfl (c_Classes_find l G h45 (by assumption) (by assumption)) ok_Classes_find ⟨mT_773, mT_774⟩ mT_772 ⟨by decide, by decide⟩ rfl hl.1 rfl (Nat.le_of_ble_eq_true rfl) d_p1m16_12 ⟨by decide, by decide⟩ (fun r75 h76 H locs hp77 w => ?_)
  refine W.widen (k := 4) (n := 128) (by decide) (by decide) ?_
  obtain ⟨e87, rfl⟩ := hp77
  refine pd_ostore_n (lv' := [(2, va_rf r75), (0, .ref x), (1, .ref y)]) hx hb d_p1m16_15 rfl hl (by decide) rfl (fun ls hl => ?_)
  refine pd_oload_n hx hb d_p1m16_16 rfl (lv_at hl 0 rfl) ?_
  rcases pd_om e87 with ⟨q88, q91⟩ | ⟨i90, q88, q91⟩
  · -- none
    refine pd_top (v' := .null) (by rw [q91]; rfl) ?_
    rw [q91] at hl
    have hl : lv_has ls 5 [(2, .null), (0, .ref x), (1, .ref y)] := hl
    refine lv_ifnonnullN hx hb d_p1m16_17 ?_
    refine lv_bipush (v := -2) hx hb d_p1m16_20 (by decide) ?_
    have hg : gr_dm n R k M cs = (-2, k, M) := by unfold gr_dm; simp only [q88]
    exact pd_iret (v := (-2)) X w ⟨by rw [hg], pd_kx.mono (us := [9, 11, 12]) (pd_kx.tr (k19) (k47)) (by simp), B, (by rw [hg]; exact ⟨lb, cl, me, ru, bk, f58, hz_x, f64, f65, f66, f67, f68, ht60⟩)⟩ (by decide) (by decide) d_p1m16_22
  · -- some
    refine pd_top (v' := .ref (A i90)) (by rw [q91]; rfl) ?_
    rw [q91] at hl
    have hl : lv_has ls 5 [(2, .ref (A i90)), (0, .ref x), (1, .ref y)] := hl
    have i90lt := gr_fi_lt q88
    refine lv_ifnonnull (tgt := 23) hx hb d_p1m16_17 (by decide) ?_
    refine lv_aload_n hx hb d_p1m16_23 rfl (lv_at hl 2 rfl) ?_
    refine lv_iconst (v := nI 1) hx hb d_p1m16_24 (by decide) ?_
    refine pd_cV (a := y) (As := [.int (nI 1)]) (rest := []) X w f59 rfl (c_Line_word l G h45 (by assumption) (by omega)) ok_Line_word ⟨mT_574, mT_575⟩ mT_573 ⟨by decide, by decide⟩ rfl hl.1 rfl (Nat.le_of_ble_eq_true rfl) d_p1m16_25 ⟨by decide, by decide⟩ (fun r94 h95 H locs hp96 w => ?_)
    refine W.widen (k := 6) (n := 192) (by decide) (by decide) ?_
    obtain ⟨k97, ds98, e99, f100⟩ := hp96
    have f108 := k97 _ _ f58 List.not_mem_nil
    have f109 := k97 _ _ f59 List.not_mem_nil
    have f110 := k97 _ _ f60 List.not_mem_nil
    have f111 := k97 _ _ f61 List.not_mem_nil
    have f112 := k97 _ _ f53 List.not_mem_nil
    have f113 := k97 _ _ f80 List.not_mem_nil
    have f114 := k97 _ _ f62 List.not_mem_nil
    have f115 := k97 _ _ f63 List.not_mem_nil
    have f116 := k97 _ _ f54 List.not_mem_nil
    have f117 := f64.kx k97 List.not_mem_nil List.not_mem_nil
    have f118 := f65.kx k97 List.not_mem_nil List.not_mem_nil List.not_mem_nil
    have f119 := f66.kx k97 List.not_mem_nil List.not_mem_nil List.not_mem_nil
    have f120 := f67.kx k97 List.not_mem_nil List.not_mem_nil List.not_mem_nil
    have f121 := f68.kx k97 List.not_mem_nil List.not_mem_nil List.not_mem_nil List.not_mem_nil List.not_mem_nil
    have f122 := f69.kx k97 List.not_mem_nil
    have f123 := f70.kx k97 List.not_mem_nil
    have f124 := f71.kx k97 List.not_mem_nil
    have f125 := f72.kx k97 List.not_mem_nil
    have f126 := f73.kx k97 List.not_mem_nil
    have f127 := f74.kx k97 List.not_mem_nil
    have f128 := f50.kx k97 List.not_mem_nil
    obtain ⟨v101, g102, f103, f104, gf105, gc106, gl107⟩ := id f100
    subst e99
    refine pd_cS (As := [.ref r94]) (rest := []) X w (c_Grammar_afterDot l G h95 (by assumption)) ok_Grammar_afterDot mT_649 mT_789 ⟨by decide, by decide⟩ rfl hl.1 rfl (Nat.le_of_ble_eq_true rfl) d_p1m16_28 ⟨by decide, by decide⟩ (fun r129 h130 H locs hp131 w => ?_)
    refine W.widen (k := 8) (n := 256) (by decide) (by decide) ?_
    obtain ⟨k132, ds133, e134, f135⟩ := hp131
    have f143 := k132 _ _ f108 List.not_mem_nil
    have f144 := k132 _ _ f109 List.not_mem_nil
    have f145 := k132 _ _ f110 List.not_mem_nil
    have f146 := k132 _ _ f111 List.not_mem_nil
    have f147 := k132 _ _ f112 List.not_mem_nil
    have f148 := k132 _ _ f113 List.not_mem_nil
    have f149 := k132 _ _ f103 List.not_mem_nil
    have f150 := k132 _ _ f114 List.not_mem_nil
    have f151 := k132 _ _ f115 List.not_mem_nil
    have f152 := k132 _ _ f116 List.not_mem_nil
    have f153 := k132 _ _ f104 List.not_mem_nil
    have f154 := f117.kx k132 List.not_mem_nil List.not_mem_nil
    have f155 := f118.kx k132 List.not_mem_nil List.not_mem_nil List.not_mem_nil
    have f156 := f119.kx k132 List.not_mem_nil List.not_mem_nil List.not_mem_nil
    have f157 := f120.kx k132 List.not_mem_nil List.not_mem_nil List.not_mem_nil
    have f158 := f121.kx k132 List.not_mem_nil List.not_mem_nil List.not_mem_nil List.not_mem_nil List.not_mem_nil
    have f159 := f122.kx k132 List.not_mem_nil
    have f160 := f123.kx k132 List.not_mem_nil
    have f161 := f124.kx k132 List.not_mem_nil
    have f162 := f125.kx k132 List.not_mem_nil
    have f163 := f126.kx k132 List.not_mem_nil
    have f164 := f127.kx k132 List.not_mem_nil
    have f165 := f128.kx k132 List.not_mem_nil
    have f166 := f100.kx k132 List.not_mem_nil
    obtain ⟨v136, g137, f138, f139, gf140, gc141, gl142⟩ := id f135
    subst e134
    refine lv_astore_n (lv' := [(3, .ref r129), (2, .ref (A i90)), (0, .ref x), (1, .ref y)]) hx hb d_p1m16_31 rfl hl (by decide) rfl (fun ls hl => ?_)
    refine lv_aload_n hx hb d_p1m16_32 rfl (lv_at hl 3 rfl) ?_
    refine lv_iconst (v := nI 2) hx hb d_p1m16_33 (by decide) ?_
    refine pd_cV (a := y) (As := [.int (nI 2)]) (rest := []) X w f144 rfl (c_Line_word l G h130 (by assumption) (by omega)) ok_Line_word ⟨mT_574, mT_575⟩ mT_573 ⟨by decide, by decide⟩ rfl hl.1 rfl (Nat.le_of_ble_eq_true rfl) d_p1m16_34 ⟨by decide, by decide⟩ (fun r167 h168 H locs hp169 w => ?_)
    refine W.widen (k := 10) (n := 320) (by decide) (by decide) ?_
    obtain ⟨k170, ds171, e172, f173⟩ := hp169
    have f181 := k170 _ _ f143 List.not_mem_nil
    have f182 := k170 _ _ f144 List.not_mem_nil
    have f183 := k170 _ _ f145 List.not_mem_nil
    have f184 := k170 _ _ f146 List.not_mem_nil
    have f185 := k170 _ _ f147 List.not_mem_nil
    have f186 := k170 _ _ f148 List.not_mem_nil
    have f187 := k170 _ _ f149 List.not_mem_nil
    have f188 := k170 _ _ f138 List.not_mem_nil
    have f189 := k170 _ _ f150 List.not_mem_nil
    have f190 := k170 _ _ f151 List.not_mem_nil
    have f191 := k170 _ _ f152 List.not_mem_nil
    have f192 := k170 _ _ f153 List.not_mem_nil
    have f193 := k170 _ _ f139 List.not_mem_nil
    have f194 := f154.kx k170 List.not_mem_nil List.not_mem_nil
    have f195 := f155.kx k170 List.not_mem_nil List.not_mem_nil List.not_mem_nil
    have f196 := f156.kx k170 List.not_mem_nil List.not_mem_nil List.not_mem_nil
    have f197 := f157.kx k170 List.not_mem_nil List.not_mem_nil List.not_mem_nil
    have f198 := f158.kx k170 List.not_mem_nil List.not_mem_nil List.not_mem_nil List.not_mem_nil List.not_mem_nil
    have f199 := f159.kx k170 List.not_mem_nil
    have f200 := f160.kx k170 List.not_mem_nil
    have f201 := f161.kx k170 List.not_mem_nil
    have f202 := f162.kx k170 List.not_mem_nil
    have f203 := f163.kx k170 List.not_mem_nil
    have f204 := f164.kx k170 List.not_mem_nil
    have f205 := f165.kx k170 List.not_mem_nil
    have f206 := f166.kx k170 List.not_mem_nil
    have f207 := f135.kx k170 List.not_mem_nil
    obtain ⟨v174, g175, f176, f177, gf178, gc179, gl180⟩ := id f173
    subst e172
    refine lv_astore (lv' := [(4, .ref r167), (3, .ref r129), (2, .ref (A i90)), (0, .ref x), (1, .ref y)]) hx hb d_p1m16_37 hl (by decide) rfl (fun ls hl => ?_)
    refine lv_aload_n hx hb d_p1m16_39 rfl (lv_at hl 3 rfl) ?_
    refine pd_get X w f181 rfl 2 (by decide) mT_369 rfl rfl d_p1m16_40 ?_
    refine lv_aload_n hx hb d_p1m16_43 rfl (lv_at hl 2 rfl) ?_
    refine lv_aload_n hx hb d_p1m16_44 rfl (lv_at hl 1 rfl) ?_
    refine lv_aload hx hb d_p1m16_45 (lv_at hl 0 rfl) ?_
    obtain ⟨ar211, g212, f213, f214, g215, hz216, hz217, z218, f219⟩ := id f196
    refine pd_cV (a := me) (As := [.ref (A i90), .ref r129, .ref r167]) (rest := []) X w f213 rfl (c_Members_declared l G h168 (by assumption) (by assumption) (by omega) (by assumption) (by assumption)) ok_Members_declared ⟨mT_791, mT_792⟩ mT_790 ⟨by decide, by decide⟩ rfl hl.1 rfl (Nat.le_of_ble_eq_true rfl) d_p1m16_47 ⟨by decide, by decide⟩ (fun r208 h209 H locs hp210 w => ?_)
    refine W.widen (k := 10) (n := 320) (by decide) (by decide) ?_
    obtain ⟨e220, rfl⟩ := hp210
    rcases pd_om e220 with ⟨q221, q224⟩ | ⟨i223, q221, q224⟩
    · -- none
      refine pd_top (v' := .null) (by rw [q224]; rfl) ?_
      have hl : lv_has ls 5 [(4, .ref r167), (3, .ref r129), (2, .ref (A i90)), (0, .ref x), (1, .ref y)] := hl
      refine lv_ifnullN (tgt := 56) hx hb d_p1m16_50 (by decide) ?_
      refine lv_aload_n hx hb d_p1m16_56 rfl (lv_at hl 1 rfl) ?_
      refine pd_ldc X (List.mem_of_getElem? (i := 17) rfl) d_p1m16_57 ?_
      have L226 : pd_Str h168 (G.2.2.2 57) [102, 105, 110, 97, 108, 105, 122, 101] := pd_litS X w 17 (by decide)
      obtain ⟨v227, g228, f229, f230, gf231, gc232, gl233⟩ := id L226
      refine pd_cV (a := r129) (As := [.ref (G.2.2.2 57)]) (rest := []) X w f188 rfl (c_String_equals l G h168 (by assumption) (by assumption)) ok_String_equals ⟨mT_613, mT_614⟩ mT_796 ⟨by decide, by decide⟩ rfl hl.1 rfl (Nat.le_of_ble_eq_true rfl) d_p1m16_59 ⟨by decide, by decide⟩ (fun r234 h235 H locs hp236 w => ?_)
      refine W.widen (k := 10) (n := 320) (by decide) (by decide) ?_
      obtain ⟨e237, rfl⟩ := hp236
      refine pd_beq (tgt := 78) hx hb d_p1m16_62 (by decide) (fun q238 => ?_) (fun q238 => ?_)
      · -- taken: 78
        refine lv_aload_n hx hb d_p1m16_78 rfl (lv_at hl 3 rfl) ?_
        refine pd_get X w f181 rfl 2 (by decide) mT_369 rfl rfl d_p1m16_79 ?_
        refine lv_aload_n hx hb d_p1m16_82 rfl (lv_at hl 2 rfl) ?_
        refine lv_aload_n hx hb d_p1m16_83 rfl (lv_at hl 1 rfl) ?_
        refine lv_aload hx hb d_p1m16_84 (lv_at hl 0 rfl) ?_
        refine lv_aload_n hx hb d_p1m16_86 rfl (lv_at hl 4 rfl) ?_
        refine lv_iconst (v := nI 3) hx hb d_p1m16_87 (by decide) ?_
        refine pd_cV (a := y) (As := [.int (nI 3)]) (rest := [.ref r167, .ref r129, .ref (A i90), .ref me]) X w f182 rfl (c_Line_word l G h168 (by assumption) (by omega)) ok_Line_word ⟨mT_574, mT_575⟩ mT_573 ⟨by decide, by decide⟩ rfl hl.1 rfl (Nat.le_of_ble_eq_true rfl) d_p1m16_88 ⟨by decide, by decide⟩ (fun r239 h240 H locs hp241 w => ?_)
        refine W.widen (k := 12) (n := 384) (by decide) (by decide) ?_
        obtain ⟨k242, ds243, e244, f245⟩ := hp241
        have f253 := k242 _ _ f181 List.not_mem_nil
        have f254 := k242 _ _ f182 List.not_mem_nil
        have f255 := k242 _ _ f183 List.not_mem_nil
        have f256 := k242 _ _ f184 List.not_mem_nil
        have f257 := k242 _ _ f185 List.not_mem_nil
        have f258 := k242 _ _ f186 List.not_mem_nil
        have f259 := k242 _ _ f187 List.not_mem_nil
        have f260 := k242 _ _ f188 List.not_mem_nil
        have f261 := k242 _ _ f176 List.not_mem_nil
        have f262 := k242 _ _ f213 List.not_mem_nil
        have f263 := k242 _ _ f229 List.not_mem_nil
        have f264 := k242 _ _ f189 List.not_mem_nil
        have f265 := k242 _ _ f190 List.not_mem_nil
        have f266 := k242 _ _ f191 List.not_mem_nil
        have f267 := k242 _ _ f192 List.not_mem_nil
        have f268 := k242 _ _ f193 List.not_mem_nil
        have f269 := k242 _ _ f177 List.not_mem_nil
        have f270 := k242 _ _ f230 List.not_mem_nil
        have f271 := f194.kx k242 List.not_mem_nil List.not_mem_nil
        have f272 := f195.kx k242 List.not_mem_nil List.not_mem_nil List.not_mem_nil
        have f273 := f196.kx k242 List.not_mem_nil List.not_mem_nil List.not_mem_nil
        have f274 := f197.kx k242 List.not_mem_nil List.not_mem_nil List.not_mem_nil
        have f275 := f198.kx k242 List.not_mem_nil List.not_mem_nil List.not_mem_nil List.not_mem_nil List.not_mem_nil
        have f276 := f199.kx k242 List.not_mem_nil
        have f277 := f200.kx k242 List.not_mem_nil
        have f278 := f201.kx k242 List.not_mem_nil
        have f279 := f202.kx k242 List.not_mem_nil
        have f280 := f203.kx k242 List.not_mem_nil
        have f281 := f204.kx k242 List.not_mem_nil
        have f282 := f205.kx k242 List.not_mem_nil
        have f283 := f206.kx k242 List.not_mem_nil
        have f284 := f207.kx k242 List.not_mem_nil
        have f285 := f173.kx k242 List.not_mem_nil
        have f286 := L226.kx k242 List.not_mem_nil
        obtain ⟨v246, g247, f248, f249, gf250, gc251, gl252⟩ := id f245
        subst e244
        refine pd_cS (As := [.ref r239]) (rest := [.ref r167, .ref r129, .ref (A i90), .ref me]) X w (c_Grammar_marksOf l G h240 (by assumption)) ok_Grammar_marksOf mT_799 mT_798 ⟨by decide, by decide⟩ rfl hl.1 rfl (Nat.le_of_ble_eq_true rfl) d_p1m16_91 ⟨by decide, by decide⟩ (fun r287 h288 H locs hp289 w => ?_)
        refine W.widen (k := 12) (n := 384) (by decide) (by decide) ?_
        obtain ⟨e290, rfl⟩ := hp289
        subst e290
        refine pd_cV (a := me) (As := [.ref (A i90), .ref r129, .ref r167, .int (nI (gr_mk (gr_w cs 3)))]) (rest := []) X w f262 rfl (c_Members_add l G h240 (A := A) (j := i90) (n := n) (R := R) (by assumption) (by assumption) (by omega) (by assumption) (by assumption) (gr_mk_lt _)) ok_Members_add ⟨mT_802, mT_803⟩ mT_801 ⟨by decide, by decide⟩ rfl hl.1 rfl (Nat.le_of_ble_eq_true rfl) d_p1m16_94 ⟨by decide, by decide⟩ (fun r291 h292 H locs hp293 w => ?_)
        refine W.widen (k := 13) (n := 390) (by decide) (by decide) ?_
        obtain ⟨k294, e295, B296, ag297, f298⟩ := hp293
        have f299 := k294 _ _ f253 (show (5 : Nat) ∉ [9, 11, 12] by decide)
        have f300 := k294 _ _ f254 (show (0 : Nat) ∉ [9, 11, 12] by decide)
        have f301 := k294 _ _ f255 (show (0 : Nat) ∉ [9, 11, 12] by decide)
        have f302 := k294 _ _ f256 (show (0 : Nat) ∉ [9, 11, 12] by decide)
        have f303 := k294 _ _ f257 (show (0 : Nat) ∉ [9, 11, 12] by decide)
        have f304 := k294 _ _ f258 (show (6 : Nat) ∉ [9, 11, 12] by decide)
        have f305 := k294 _ _ f259 (show (0 : Nat) ∉ [9, 11, 12] by decide)
        have f306 := k294 _ _ f260 (show (0 : Nat) ∉ [9, 11, 12] by decide)
        have f307 := k294 _ _ f261 (show (0 : Nat) ∉ [9, 11, 12] by decide)
        have f308 := k294 _ _ f263 (show (0 : Nat) ∉ [9, 11, 12] by decide)
        have f309 := k294 _ _ f248 (show (0 : Nat) ∉ [9, 11, 12] by decide)
        have f310 := k294 _ _ f264 (show (0 : Nat) ∉ [9, 11, 12] by decide)
        have f311 := k294 _ _ f265 (show (0 : Nat) ∉ [9, 11, 12] by decide)
        have f312 := k294 _ _ f266 (show (0 : Nat) ∉ [9, 11, 12] by decide)
        have f313 := k294 _ _ f267 (show (0 : Nat) ∉ [9, 11, 12] by decide)
        have f314 := k294 _ _ f268 (show (0 : Nat) ∉ [9, 11, 12] by decide)
        have f315 := k294 _ _ f269 (show (0 : Nat) ∉ [9, 11, 12] by decide)
        have f316 := k294 _ _ f270 (show (0 : Nat) ∉ [9, 11, 12] by decide)
        have f317 := k294 _ _ f249 (show (0 : Nat) ∉ [9, 11, 12] by decide)
        have f318 := f271.kx k294 (show (1 : Nat) ∉ [9, 11, 12] by decide) (show (2 : Nat) ∉ [9, 11, 12] by decide)
        have f319 := f272.kx k294 (show (6 : Nat) ∉ [9, 11, 12] by decide) (show (10 : Nat) ∉ [9, 11, 12] by decide) (show (0 : Nat) ∉ [9, 11, 12] by decide)
        have f320 := f274.kx k294 (show (13 : Nat) ∉ [9, 11, 12] by decide) (show (14 : Nat) ∉ [9, 11, 12] by decide) (show (0 : Nat) ∉ [9, 11, 12] by decide)
        have f321 := f275.kx k294 (show (15 : Nat) ∉ [9, 11, 12] by decide) (show (16 : Nat) ∉ [9, 11, 12] by decide) (show (17 : Nat) ∉ [9, 11, 12] by decide) (show (3 : Nat) ∉ [9, 11, 12] by decide) (show (4 : Nat) ∉ [9, 11, 12] by decide)
        have f322 := f276.kx k294 (show (0 : Nat) ∉ [9, 11, 12] by decide)
        have f323 := f278.kx k294 (show (0 : Nat) ∉ [9, 11, 12] by decide)
        have f324 := f279.kx k294 (show (0 : Nat) ∉ [9, 11, 12] by decide)
        have f325 := f280.kx k294 (show (0 : Nat) ∉ [9, 11, 12] by decide)
        have f326 := f281.kx k294 (show (0 : Nat) ∉ [9, 11, 12] by decide)
        have f327 := f282.kx k294 (show (0 : Nat) ∉ [9, 11, 12] by decide)
        have f328 := f283.kx k294 (show (0 : Nat) ∉ [9, 11, 12] by decide)
        have f329 := f284.kx k294 (show (0 : Nat) ∉ [9, 11, 12] by decide)
        have f330 := f285.kx k294 (show (0 : Nat) ∉ [9, 11, 12] by decide)
        have f331 := f286.kx k294 (show (0 : Nat) ∉ [9, 11, 12] by decide)
        have f332 := f245.kx k294 (show (0 : Nat) ∉ [9, 11, 12] by decide)
        have hg : gr_dm n R k M cs = gr_madd k M (i90, gr_ad (gr_w cs 1), gr_w cs 2, gr_mk (gr_w cs 3)) := by unfold gr_dm; simp only [q88, q221]; rw [if_neg (fun h9 => of_decide_eq_false (e237.symm.trans q238) h9.1)]
        exact pd_iret (v := r291) X w ⟨by rw [hg]; exact e295, pd_kx.tr (pd_kx.mono (us := [9, 11, 12]) (pd_kx.tr (pd_kx.tr (pd_kx.tr (pd_kx.tr (pd_kx.tr (k19) (k47)) (k97)) (k132)) (k170)) (k242)) (by simp)) (k294), B296, (by rw [hg]; exact ⟨lb, cl, me, ru, bk, f299, hz_x, f318, f319, f298, (pd_Ruls.ag f320 ag297 gr_madd_le), f321, ht60⟩)⟩ (by decide) (by decide) d_p1m16_97
      · -- not taken: 65
        refine lv_aload hx hb d_p1m16_65 (lv_at hl 0 rfl) ?_
        refine pd_ldc X (List.mem_of_getElem? (i := 18) rfl) d_p1m16_67 ?_
        have L333 : pd_Str h168 (G.2.2.2 58) [40, 41, 86] := pd_litS X w 18 (by decide)
        obtain ⟨v334, g335, f336, f337, gf338, gc339, gl340⟩ := id L333
        refine pd_cV (a := r167) (As := [.ref (G.2.2.2 58)]) (rest := []) X w f176 rfl (c_String_equals l G h168 (by assumption) (by assumption)) ok_String_equals ⟨mT_613, mT_614⟩ mT_796 ⟨by decide, by decide⟩ rfl hl.1 rfl (Nat.le_of_ble_eq_true rfl) d_p1m16_69 ⟨by decide, by decide⟩ (fun r341 h342 H locs hp343 w => ?_)
        refine W.widen (k := 10) (n := 320) (by decide) (by decide) ?_
        obtain ⟨e344, rfl⟩ := hp343
        refine pd_beq (tgt := 78) hx hb d_p1m16_72 (by decide) (fun q345 => ?_) (fun q345 => ?_)
        · -- taken: 78
          refine lv_aload_n hx hb d_p1m16_78 rfl (lv_at hl 3 rfl) ?_
          refine pd_get X w f181 rfl 2 (by decide) mT_369 rfl rfl d_p1m16_79 ?_
          refine lv_aload_n hx hb d_p1m16_82 rfl (lv_at hl 2 rfl) ?_
          refine lv_aload_n hx hb d_p1m16_83 rfl (lv_at hl 1 rfl) ?_
          refine lv_aload hx hb d_p1m16_84 (lv_at hl 0 rfl) ?_
          refine lv_aload_n hx hb d_p1m16_86 rfl (lv_at hl 4 rfl) ?_
          refine lv_iconst (v := nI 3) hx hb d_p1m16_87 (by decide) ?_
          refine pd_cV (a := y) (As := [.int (nI 3)]) (rest := [.ref r167, .ref r129, .ref (A i90), .ref me]) X w f182 rfl (c_Line_word l G h168 (by assumption) (by omega)) ok_Line_word ⟨mT_574, mT_575⟩ mT_573 ⟨by decide, by decide⟩ rfl hl.1 rfl (Nat.le_of_ble_eq_true rfl) d_p1m16_88 ⟨by decide, by decide⟩ (fun r346 h347 H locs hp348 w => ?_)
          refine W.widen (k := 12) (n := 384) (by decide) (by decide) ?_
          obtain ⟨k349, ds350, e351, f352⟩ := hp348
          have f360 := k349 _ _ f181 List.not_mem_nil
          have f361 := k349 _ _ f182 List.not_mem_nil
          have f362 := k349 _ _ f183 List.not_mem_nil
          have f363 := k349 _ _ f184 List.not_mem_nil
          have f364 := k349 _ _ f185 List.not_mem_nil
          have f365 := k349 _ _ f186 List.not_mem_nil
          have f366 := k349 _ _ f187 List.not_mem_nil
          have f367 := k349 _ _ f188 List.not_mem_nil
          have f368 := k349 _ _ f176 List.not_mem_nil
          have f369 := k349 _ _ f213 List.not_mem_nil
          have f370 := k349 _ _ f229 List.not_mem_nil
          have f371 := k349 _ _ f336 List.not_mem_nil
          have f372 := k349 _ _ f189 List.not_mem_nil
          have f373 := k349 _ _ f190 List.not_mem_nil
          have f374 := k349 _ _ f191 List.not_mem_nil
          have f375 := k349 _ _ f192 List.not_mem_nil
          have f376 := k349 _ _ f193 List.not_mem_nil
          have f377 := k349 _ _ f177 List.not_mem_nil
          have f378 := k349 _ _ f230 List.not_mem_nil
          have f379 := k349 _ _ f337 List.not_mem_nil
          have f380 := f194.kx k349 List.not_mem_nil List.not_mem_nil
          have f381 := f195.kx k349 List.not_mem_nil List.not_mem_nil List.not_mem_nil
          have f382 := f196.kx k349 List.not_mem_nil List.not_mem_nil List.not_mem_nil
          have f383 := f197.kx k349 List.not_mem_nil List.not_mem_nil List.not_mem_nil
          have f384 := f198.kx k349 List.not_mem_nil List.not_mem_nil List.not_mem_nil List.not_mem_nil List.not_mem_nil
          have f385 := f199.kx k349 List.not_mem_nil
          have f386 := f200.kx k349 List.not_mem_nil
          have f387 := f201.kx k349 List.not_mem_nil
          have f388 := f202.kx k349 List.not_mem_nil
          have f389 := f203.kx k349 List.not_mem_nil
          have f390 := f204.kx k349 List.not_mem_nil
          have f391 := f205.kx k349 List.not_mem_nil
          have f392 := f206.kx k349 List.not_mem_nil
          have f393 := f207.kx k349 List.not_mem_nil
          have f394 := f173.kx k349 List.not_mem_nil
          have f395 := L226.kx k349 List.not_mem_nil
          have f396 := L333.kx k349 List.not_mem_nil
          obtain ⟨v353, g354, f355, f356, gf357, gc358, gl359⟩ := id f352
          subst e351
          refine pd_cS (As := [.ref r346]) (rest := [.ref r167, .ref r129, .ref (A i90), .ref me]) X w (c_Grammar_marksOf l G h347 (by assumption)) ok_Grammar_marksOf mT_799 mT_798 ⟨by decide, by decide⟩ rfl hl.1 rfl (Nat.le_of_ble_eq_true rfl) d_p1m16_91 ⟨by decide, by decide⟩ (fun r397 h398 H locs hp399 w => ?_)
          refine W.widen (k := 12) (n := 384) (by decide) (by decide) ?_
          obtain ⟨e400, rfl⟩ := hp399
          subst e400
          refine pd_cV (a := me) (As := [.ref (A i90), .ref r129, .ref r167, .int (nI (gr_mk (gr_w cs 3)))]) (rest := []) X w f369 rfl (c_Members_add l G h347 (A := A) (j := i90) (n := n) (R := R) (by assumption) (by assumption) (by omega) (by assumption) (by assumption) (gr_mk_lt _)) ok_Members_add ⟨mT_802, mT_803⟩ mT_801 ⟨by decide, by decide⟩ rfl hl.1 rfl (Nat.le_of_ble_eq_true rfl) d_p1m16_94 ⟨by decide, by decide⟩ (fun r401 h402 H locs hp403 w => ?_)
          refine W.widen (k := 13) (n := 390) (by decide) (by decide) ?_
          obtain ⟨k404, e405, B406, ag407, f408⟩ := hp403
          have f409 := k404 _ _ f360 (show (5 : Nat) ∉ [9, 11, 12] by decide)
          have f410 := k404 _ _ f361 (show (0 : Nat) ∉ [9, 11, 12] by decide)
          have f411 := k404 _ _ f362 (show (0 : Nat) ∉ [9, 11, 12] by decide)
          have f412 := k404 _ _ f363 (show (0 : Nat) ∉ [9, 11, 12] by decide)
          have f413 := k404 _ _ f364 (show (0 : Nat) ∉ [9, 11, 12] by decide)
          have f414 := k404 _ _ f365 (show (6 : Nat) ∉ [9, 11, 12] by decide)
          have f415 := k404 _ _ f366 (show (0 : Nat) ∉ [9, 11, 12] by decide)
          have f416 := k404 _ _ f367 (show (0 : Nat) ∉ [9, 11, 12] by decide)
          have f417 := k404 _ _ f368 (show (0 : Nat) ∉ [9, 11, 12] by decide)
          have f418 := k404 _ _ f370 (show (0 : Nat) ∉ [9, 11, 12] by decide)
          have f419 := k404 _ _ f371 (show (0 : Nat) ∉ [9, 11, 12] by decide)
          have f420 := k404 _ _ f355 (show (0 : Nat) ∉ [9, 11, 12] by decide)
          have f421 := k404 _ _ f372 (show (0 : Nat) ∉ [9, 11, 12] by decide)
          have f422 := k404 _ _ f373 (show (0 : Nat) ∉ [9, 11, 12] by decide)
          have f423 := k404 _ _ f374 (show (0 : Nat) ∉ [9, 11, 12] by decide)
          have f424 := k404 _ _ f375 (show (0 : Nat) ∉ [9, 11, 12] by decide)
          have f425 := k404 _ _ f376 (show (0 : Nat) ∉ [9, 11, 12] by decide)
          have f426 := k404 _ _ f377 (show (0 : Nat) ∉ [9, 11, 12] by decide)
          have f427 := k404 _ _ f378 (show (0 : Nat) ∉ [9, 11, 12] by decide)
          have f428 := k404 _ _ f379 (show (0 : Nat) ∉ [9, 11, 12] by decide)
          have f429 := k404 _ _ f356 (show (0 : Nat) ∉ [9, 11, 12] by decide)
          have f430 := f380.kx k404 (show (1 : Nat) ∉ [9, 11, 12] by decide) (show (2 : Nat) ∉ [9, 11, 12] by decide)
          have f431 := f381.kx k404 (show (6 : Nat) ∉ [9, 11, 12] by decide) (show (10 : Nat) ∉ [9, 11, 12] by decide) (show (0 : Nat) ∉ [9, 11, 12] by decide)
          have f432 := f383.kx k404 (show (13 : Nat) ∉ [9, 11, 12] by decide) (show (14 : Nat) ∉ [9, 11, 12] by decide) (show (0 : Nat) ∉ [9, 11, 12] by decide)
          have f433 := f384.kx k404 (show (15 : Nat) ∉ [9, 11, 12] by decide) (show (16 : Nat) ∉ [9, 11, 12] by decide) (show (17 : Nat) ∉ [9, 11, 12] by decide) (show (3 : Nat) ∉ [9, 11, 12] by decide) (show (4 : Nat) ∉ [9, 11, 12] by decide)
          have f434 := f385.kx k404 (show (0 : Nat) ∉ [9, 11, 12] by decide)
          have f435 := f387.kx k404 (show (0 : Nat) ∉ [9, 11, 12] by decide)
          have f436 := f388.kx k404 (show (0 : Nat) ∉ [9, 11, 12] by decide)
          have f437 := f389.kx k404 (show (0 : Nat) ∉ [9, 11, 12] by decide)
          have f438 := f390.kx k404 (show (0 : Nat) ∉ [9, 11, 12] by decide)
          have f439 := f391.kx k404 (show (0 : Nat) ∉ [9, 11, 12] by decide)
          have f440 := f392.kx k404 (show (0 : Nat) ∉ [9, 11, 12] by decide)
          have f441 := f393.kx k404 (show (0 : Nat) ∉ [9, 11, 12] by decide)
          have f442 := f394.kx k404 (show (0 : Nat) ∉ [9, 11, 12] by decide)
          have f443 := f395.kx k404 (show (0 : Nat) ∉ [9, 11, 12] by decide)
          have f444 := f396.kx k404 (show (0 : Nat) ∉ [9, 11, 12] by decide)
          have f445 := f352.kx k404 (show (0 : Nat) ∉ [9, 11, 12] by decide)
          have hg : gr_dm n R k M cs = gr_madd k M (i90, gr_ad (gr_w cs 1), gr_w cs 2, gr_mk (gr_w cs 3)) := by unfold gr_dm; simp only [q88, q221]; rw [if_neg (fun h9 => of_decide_eq_false (e344.symm.trans q345) h9.2)]
          exact pd_iret (v := r401) X w ⟨by rw [hg]; exact e405, pd_kx.tr (pd_kx.mono (us := [9, 11, 12]) (pd_kx.tr (pd_kx.tr (pd_kx.tr (pd_kx.tr (pd_kx.tr (k19) (k47)) (k97)) (k132)) (k170)) (k349)) (by simp)) (k404), B406, (by rw [hg]; exact ⟨lb, cl, me, ru, bk, f409, hz_x, f430, f431, f408, (pd_Ruls.ag f432 ag407 gr_madd_le), f433, ht60⟩)⟩ (by decide) (by decide) d_p1m16_97
        · -- not taken: 75
          refine lv_bipush (v := -4) hx hb d_p1m16_75 (by decide) ?_
          have hg : gr_dm n R k M cs = (-4, k, M) := by unfold gr_dm; simp only [q88, q221]; rw [if_pos ⟨of_decide_eq_true (e237.symm.trans q238), of_decide_eq_true (e344.symm.trans q345)⟩]
          exact pd_iret (v := (-4)) X w ⟨by rw [hg], pd_kx.mono (us := [9, 11, 12]) (pd_kx.tr (pd_kx.tr (pd_kx.tr (pd_kx.tr (k19) (k47)) (k97)) (k132)) (k170)) (by simp), B, (by rw [hg]; exact ⟨lb, cl, me, ru, bk, f181, hz_x, f194, f195, f196, f197, f198, ht60⟩)⟩ (by decide) (by decide) d_p1m16_77
    · -- some
      refine pd_top (v' := .ref (B i223)) (by rw [q224]; rfl) ?_
      have hl : lv_has ls 5 [(4, .ref r167), (3, .ref r129), (2, .ref (A i90)), (0, .ref x), (1, .ref y)] := hl
      have i223lt := gr_fi_lt q221
      refine lv_ifnull hx hb d_p1m16_50 ?_
      refine lv_bipush (v := -3) hx hb d_p1m16_53 (by decide) ?_
      have hg : gr_dm n R k M cs = (-3, k, M) := by unfold gr_dm; simp only [q88, q221]
      exact pd_iret (v := (-3)) X w ⟨by rw [hg], pd_kx.mono (us := [9, 11, 12]) (pd_kx.tr (pd_kx.tr (pd_kx.tr (pd_kx.tr (k19) (k47)) (k97)) (k132)) (k170)) (by simp), B, (by rw [hg]; exact ⟨lb, cl, me, ru, bk, f181, hz_x, f194, f195, f196, f197, f198, ht60⟩)⟩ (by decide) (by decide) d_p1m16_55
theorem d_p1m18_0 : decode prog_1_method_18_code 0 = .ok (.aload_n 0, 1) := by decide +kernel
theorem d_p1m18_1 : decode prog_1_method_18_code 1 = .ok (.getfield 19, 3) := by decide +kernel
theorem d_p1m18_4 : decode prog_1_method_18_code 4 = .ok (.aload_n 1, 1) := by decide +kernel
theorem d_p1m18_5 : decode prog_1_method_18_code 5 = .ok (.invokestatic 211, 3) := by decide +kernel
theorem d_p1m18_8 : decode prog_1_method_18_code 8 = .ok (.invokevirtual 197, 3) := by decide +kernel
theorem d_p1m18_11 : decode prog_1_method_18_code 11 = .ok (.astore_n 2, 1) := by decide +kernel
theorem d_p1m18_12 : decode prog_1_method_18_code 12 = .ok (.aload_n 2, 1) := by decide +kernel
theorem d_p1m18_13 : decode prog_1_method_18_code 13 = .ok (.ifnonnull 7, 3) := by decide +kernel
theorem d_p1m18_16 : decode prog_1_method_18_code 16 = .ok (.aconst_null, 1) := by decide +kernel
theorem d_p1m18_17 : decode prog_1_method_18_code 17 = .ok (.goto 15, 3) := by decide +kernel
theorem d_p1m18_20 : decode prog_1_method_18_code 20 = .ok (.aload_n 0, 1) := by decide +kernel
theorem d_p1m18_21 : decode prog_1_method_18_code 21 = .ok (.getfield 26, 3) := by decide +kernel
theorem d_p1m18_24 : decode prog_1_method_18_code 24 = .ok (.aload_n 2, 1) := by decide +kernel
theorem d_p1m18_25 : decode prog_1_method_18_code 25 = .ok (.aload_n 1, 1) := by decide +kernel
theorem d_p1m18_26 : decode prog_1_method_18_code 26 = .ok (.invokestatic 215, 3) := by decide +kernel
theorem d_p1m18_29 : decode prog_1_method_18_code 29 = .ok (.invokevirtual 257, 3) := by decide +kernel
theorem d_p1m18_32 : decode prog_1_method_18_code 32 = .ok (.areturn, 1) := by decide +kernel
abbrev y_PolicyDesk_standInOf : MethodName := ⟨"PolicyDesk", "standInOf", "(Ljava/lang/String;)LPolicyDesk$MemberRow;"⟩
theorem ok_PolicyDesk_standInOf : pd_ok y_PolicyDesk_standInOf prog_1_method_18_code 3 (some (.object "PolicyDesk$MemberRow")) 1 := ⟨mT_849, mT_1, by decide, by decide +kernel⟩
abbrev rm_PolicyDesk_standInOf : Room := { frames := 7, cells := 4, slots := 128, locals := 174 }
set_option maxHeartbeats 4000000 in
set_option maxRecDepth 100000 in
theorem c_PolicyDesk_standInOf (l : Launch) (G : pd_G) (h : pd_H) {x : Nat} {A B C : Nat → Nat} {t0 : List Nat} {n : Nat} {R : Nat → pd_cr} {k : Nat} {M : Nat → pd_mr} {u : Nat} {U : Nat → pd_rr} {T : Nat → List Nat} {kp nx : Nat} {sp : Int64} {an gn sn dn : Nat} {a : Nat} {ws : List Nat} (hD : pd_DX G h x A B C t0 n R k M u U T kp nx sp an gn sn dn) (hS : pd_Str h a ws) : pd_M l y_PolicyDesk_standInOf prog_1_method_18_code 3 (some (.object "PolicyDesk$MemberRow")) rm_PolicyDesk_standInOf G h [.ref x, .ref a] va_rf (fun r h1 => pd_kx [] h h1 ∧ r = (gr_si n R k M ws).map B) := by
  refine pd_M.of (by decide) (Nat.le_of_ble_eq_true rfl) ?_
  intro p e s m below meth c X hmn w ls hl
  have hx := X.1
  have hb := X.2.1
  have hl : lv_has ls 3 [(0, .ref x), (1, .ref a)] := hl
  obtain ⟨lb, cl, me, ru, bk, hx0, hz_x, hsb, hC, hM, hU, hA, ht60⟩ := id hD
  have hR := hC.rows
  have hMR := hM.mrows
  have hRR := hU.rrows
  have hcw := hR.2.2
  have hAi := hR.2.1
  have hn14 := hcw.1
  have ht21 : (2 : Nat) ≠ 1 := by decide
  have ht10 : (1 : Nat) ≠ 0 := by decide
  have ht20 : (2 : Nat) ≠ 0 := by decide
  refine lv_aload_n hx hb d_p1m18_0 rfl (lv_at hl 0 rfl) ?_
  refine pd_get X w hx0 rfl 1 (by decide) mT_368 rfl rfl d_p1m18_1 ?_
  refine lv_aload_n hx hb d_p1m18_4 rfl (lv_at hl 1 rfl) ?_
  refine pd_cS (As := [.ref a]) (rest := [.ref cl]) X w (c_Grammar_beforeDot l G h (by assumption)) ok_Grammar_beforeDot mT_714 mT_788 ⟨by decide, by decide⟩ rfl hl.1 rfl (Nat.le_of_ble_eq_true rfl) d_p1m18_5 ⟨by decide, by decide⟩ (fun r1 h2 H locs hp3 w => ?_)
  refine W.widen (k := 2) (n := 64) (by decide) (by decide) ?_
  obtain ⟨k4, ds5, e6, f7⟩ := hp3
  have f15 := k4 _ _ hx0 List.not_mem_nil
  have f16 := hsb.kx k4 List.not_mem_nil List.not_mem_nil
  have f17 := hC.kx k4 List.not_mem_nil List.not_mem_nil List.not_mem_nil
  have f18 := hM.kx k4 List.not_mem_nil List.not_mem_nil List.not_mem_nil
  have f19 := hU.kx k4 List.not_mem_nil List.not_mem_nil List.not_mem_nil
  have f20 := hA.kx k4 List.not_mem_nil List.not_mem_nil List.not_mem_nil List.not_mem_nil List.not_mem_nil
  have f21 := hR.kx k4 List.not_mem_nil
  have f22 := hMR.kx k4 List.not_mem_nil
  have f23 := hRR.kx k4 List.not_mem_nil
  have f24 := hS.kx k4 List.not_mem_nil
  obtain ⟨v8, g9, f10, f11, gf12, gc13, gl14⟩ := id f7
  subst e6
  obtain ⟨ar28, g29, f30, f31, g32, hz33, hz34, z35, f36⟩ := id f17
  refine pd_cV (a := cl) (As := [.ref r1]) (rest := []) X w f30 rfl (c_Classes_find l G h2 (by assumption) (by assumption)) ok_Classes_find ⟨mT_773, mT_774⟩ mT_772 ⟨by decide, by decide⟩ rfl hl.1 rfl (Nat.le_of_ble_eq_true rfl) d_p1m18_8 ⟨by decide, by decide⟩ (fun r25 h26 H locs hp27 w => ?_)
  refine W.widen (k := 2) (n := 64) (by decide) (by decide) ?_
  obtain ⟨e37, rfl⟩ := hp27
  refine pd_ostore_n (lv' := [(2, va_rf r25), (0, .ref x), (1, .ref a)]) hx hb d_p1m18_11 rfl hl (by decide) rfl (fun ls hl => ?_)
  refine pd_oload_n hx hb d_p1m18_12 rfl (lv_at hl 0 rfl) ?_
  rcases pd_om e37 with ⟨q38, q41⟩ | ⟨i40, q38, q41⟩
  · -- none
    refine pd_top (v' := .null) (by rw [q41]; rfl) ?_
    rw [q41] at hl
    have hl : lv_has ls 3 [(2, .null), (0, .ref x), (1, .ref a)] := hl
    refine lv_ifnonnullN hx hb d_p1m18_13 ?_
    refine lv_null hx hb d_p1m18_16 ?_
    refine lv_goto (tgt := 32) hx hb d_p1m18_17 (by decide) ?_
    refine W.eq (g2 := F0 m 32 ls [va_rf none]) rfl ?_
    exact pd_oret (v := none) X (Or.inl ⟨_, rfl⟩) w ⟨k4, by unfold gr_si; simp only [q38]; rfl⟩ (by decide) (by decide) d_p1m18_32
  · -- some
    refine pd_top (v' := .ref (A i40)) (by rw [q41]; rfl) ?_
    rw [q41] at hl
    have hl : lv_has ls 3 [(2, .ref (A i40)), (0, .ref x), (1, .ref a)] := hl
    have i40lt := gr_fi_lt q38
    refine lv_ifnonnull (tgt := 20) hx hb d_p1m18_13 (by decide) ?_
    refine lv_aload_n hx hb d_p1m18_20 rfl (lv_at hl 1 rfl) ?_
    refine pd_get X w f15 rfl 2 (by decide) mT_369 rfl rfl d_p1m18_21 ?_
    refine lv_aload_n hx hb d_p1m18_24 rfl (lv_at hl 0 rfl) ?_
    refine lv_aload_n hx hb d_p1m18_25 rfl (lv_at hl 2 rfl) ?_
    refine pd_cS (As := [.ref a]) (rest := [.ref (A i40), .ref me]) X w (c_Grammar_afterDot l G h2 (by assumption)) ok_Grammar_afterDot mT_649 mT_789 ⟨by decide, by decide⟩ rfl hl.1 rfl (Nat.le_of_ble_eq_true rfl) d_p1m18_26 ⟨by decide, by decide⟩ (fun r44 h45 H locs hp46 w => ?_)
    refine W.widen (k := 4) (n := 128) (by decide) (by decide) ?_
    obtain ⟨k47, ds48, e49, f50⟩ := hp46
    have f58 := k47 _ _ f15 List.not_mem_nil
    have f59 := k47 _ _ f10 List.not_mem_nil
    have f60 := k47 _ _ f30 List.not_mem_nil
    have f61 := k47 _ _ f11 List.not_mem_nil
    have f62 := f16.kx k47 List.not_mem_nil List.not_mem_nil
    have f63 := f17.kx k47 List.not_mem_nil List.not_mem_nil List.not_mem_nil
    have f64 := f18.kx k47 List.not_mem_nil List.not_mem_nil List.not_mem_nil
    have f65 := f19.kx k47 List.not_mem_nil List.not_mem_nil List.not_mem_nil
    have f66 := f20.kx k47 List.not_mem_nil List.not_mem_nil List.not_mem_nil List.not_mem_nil List.not_mem_nil
    have f67 := f21.kx k47 List.not_mem_nil
    have f68 := f22.kx k47 List.not_mem_nil
    have f69 := f23.kx k47 List.not_mem_nil
    have f70 := f24.kx k47 List.not_mem_nil
    have f71 := f7.kx k47 List.not_mem_nil
    obtain ⟨v51, g52, f53, f54, gf55, gc56, gl57⟩ := id f50
    subst e49
    obtain ⟨ar75, g76, f77, f78, g79, hz80, hz81, z82, f83⟩ := id f64
    refine pd_cV (a := me) (As := [.ref (A i40), .ref r44]) (rest := []) X w f77 rfl (c_Members_firstMethod l G h45 (A := A) (j := i40) (n := n) (R := R) (by assumption) (by assumption) (by omega) (by assumption)) ok_Members_firstMethod ⟨mT_851, mT_852⟩ mT_850 ⟨by decide, by decide⟩ rfl hl.1 rfl (Nat.le_of_ble_eq_true rfl) d_p1m18_29 ⟨by decide, by decide⟩ (fun r72 h73 H locs hp74 w => ?_)
    refine W.widen (k := 4) (n := 128) (by decide) (by decide) ?_
    obtain ⟨e84, rfl⟩ := hp74
    exact pd_oret (v := r72) X (Or.inl ⟨_, rfl⟩) w ⟨pd_kx.tr (k4) (k47), (by unfold gr_si; simp only [q38]; exact e84)⟩ (by decide) (by decide) d_p1m18_32
theorem gr_said_6 {cs : List Nat} (h : gr_said cs 6 = true) : gr_cost (gr_w cs 2) = true := by
  unfold gr_said at h
  simp [pd_map] at h
  exact h.2
theorem gr_cost_l {cs : List Nat} (h : gr_cost cs = true) : cs.length ≤ 3 := by
  unfold gr_cost at h
  simp at h
  omega
theorem gr_cost_d {cs : List Nat} (h : gr_cost cs = true) : ∀ x ∈ cs, gr_dg x = true := by
  unfold gr_cost at h
  simp at h
  simpa using h.2
theorem gr_val_lt : ∀ (cs : List Nat) (v : Nat), (∀ x ∈ cs, gr_dg x = true) → gr_val cs v < (v + 1) * 10 ^ cs.length
  | [], v, _ => by
    rw [gr_val, List.length_nil, Nat.pow_zero]
    omega
  | x :: t, v, h => by
    have hx : 48 ≤ x ∧ x ≤ 57 := of_decide_eq_true (h x List.mem_cons_self)
    have h1 := gr_val_lt t (v * 10 + x - 48) (fun z hz => h z (List.mem_cons_of_mem _ hz))
    have h2 : (v * 10 + x - 48 + 1) * 10 ^ t.length ≤ ((v + 1) * 10) * 10 ^ t.length := Nat.mul_le_mul_right _ (by omega)
    rw [gr_val, List.length_cons, Nat.pow_succ, Nat.mul_comm (10 ^ t.length) 10, ← Nat.mul_assoc]
    omega
theorem gr_num_lt {cs : List Nat} (h : gr_cost cs = true) : gr_num cs < 1000 := by
  have h1 := gr_val_lt cs 0 (gr_cost_d h)
  have h2 : 10 ^ cs.length ≤ 10 ^ 3 := Nat.pow_le_pow_right (by decide) (gr_cost_l h)
  unfold gr_num
  omega
theorem d_p1m17_0 : decode prog_1_method_17_code 0 = .ok (.aconst_null, 1) := by decide +kernel
theorem d_p1m17_1 : decode prog_1_method_17_code 1 = .ok (.astore_n 3, 1) := by decide +kernel
theorem d_p1m17_2 : decode prog_1_method_17_code 2 = .ok (.aload_n 2, 1) := by decide +kernel
theorem d_p1m17_3 : decode prog_1_method_17_code 3 = .ok (.getstatic 236, 3) := by decide +kernel
theorem d_p1m17_6 : decode prog_1_method_17_code 6 = .ok (.if_acmp .ne 30, 3) := by decide +kernel
theorem d_p1m17_9 : decode prog_1_method_17_code 9 = .ok (.aload_n 0, 1) := by decide +kernel
theorem d_p1m17_10 : decode prog_1_method_17_code 10 = .ok (.aload_n 1, 1) := by decide +kernel
theorem d_p1m17_11 : decode prog_1_method_17_code 11 = .ok (.iconst 2, 1) := by decide +kernel
theorem d_p1m17_12 : decode prog_1_method_17_code 12 = .ok (.invokevirtual 73, 3) := by decide +kernel
theorem d_p1m17_15 : decode prog_1_method_17_code 15 = .ok (.invokevirtual 240, 3) := by decide +kernel
theorem d_p1m17_18 : decode prog_1_method_17_code 18 = .ok (.astore_n 3, 1) := by decide +kernel
theorem d_p1m17_19 : decode prog_1_method_17_code 19 = .ok (.aload_n 3, 1) := by decide +kernel
theorem d_p1m17_20 : decode prog_1_method_17_code 20 = .ok (.ifnonnull 6, 3) := by decide +kernel
theorem d_p1m17_23 : decode prog_1_method_17_code 23 = .ok (.bipush (-2), 2) := by decide +kernel
theorem d_p1m17_25 : decode prog_1_method_17_code 25 = .ok (.ireturn, 1) := by decide +kernel
theorem d_p1m17_26 : decode prog_1_method_17_code 26 = .ok (.aload_n 3, 1) := by decide +kernel
theorem d_p1m17_27 : decode prog_1_method_17_code 27 = .ok (.invokevirtual 244, 3) := by decide +kernel
theorem d_p1m17_30 : decode prog_1_method_17_code 30 = .ok (.ifCond .ne 6, 3) := by decide +kernel
theorem d_p1m17_33 : decode prog_1_method_17_code 33 = .ok (.bipush (-4), 2) := by decide +kernel
theorem d_p1m17_35 : decode prog_1_method_17_code 35 = .ok (.ireturn, 1) := by decide +kernel
theorem d_p1m17_36 : decode prog_1_method_17_code 36 = .ok (.aload_n 2, 1) := by decide +kernel
theorem d_p1m17_37 : decode prog_1_method_17_code 37 = .ok (.getstatic 248, 3) := by decide +kernel
theorem d_p1m17_40 : decode prog_1_method_17_code 40 = .ok (.if_acmp .ne 14, 3) := by decide +kernel
theorem d_p1m17_43 : decode prog_1_method_17_code 43 = .ok (.aload_n 1, 1) := by decide +kernel
theorem d_p1m17_44 : decode prog_1_method_17_code 44 = .ok (.iconst 2, 1) := by decide +kernel
theorem d_p1m17_45 : decode prog_1_method_17_code 45 = .ok (.invokevirtual 73, 3) := by decide +kernel
theorem d_p1m17_48 : decode prog_1_method_17_code 48 = .ok (.invokestatic 251, 3) := by decide +kernel
theorem d_p1m17_51 : decode prog_1_method_17_code 51 = .ok (.goto 4, 3) := by decide +kernel
theorem d_p1m17_54 : decode prog_1_method_17_code 54 = .ok (.iconst 0, 1) := by decide +kernel
theorem d_p1m17_55 : decode prog_1_method_17_code 55 = .ok (.istore 4, 2) := by decide +kernel
theorem d_p1m17_57 : decode prog_1_method_17_code 57 = .ok (.aload_n 0, 1) := by decide +kernel
theorem d_p1m17_58 : decode prog_1_method_17_code 58 = .ok (.getfield 33, 3) := by decide +kernel
theorem d_p1m17_61 : decode prog_1_method_17_code 61 = .ok (.aload_n 2, 1) := by decide +kernel
theorem d_p1m17_62 : decode prog_1_method_17_code 62 = .ok (.aload_n 1, 1) := by decide +kernel
theorem d_p1m17_63 : decode prog_1_method_17_code 63 = .ok (.iconst 1, 1) := by decide +kernel
theorem d_p1m17_64 : decode prog_1_method_17_code 64 = .ok (.invokevirtual 73, 3) := by decide +kernel
theorem d_p1m17_67 : decode prog_1_method_17_code 67 = .ok (.iload 4, 2) := by decide +kernel
theorem d_p1m17_69 : decode prog_1_method_17_code 69 = .ok (.aload_n 3, 1) := by decide +kernel
theorem d_p1m17_70 : decode prog_1_method_17_code 70 = .ok (.invokevirtual 254, 3) := by decide +kernel
theorem d_p1m17_73 : decode prog_1_method_17_code 73 = .ok (.ireturn, 1) := by decide +kernel
abbrev y_PolicyDesk_declareRule : MethodName := ⟨"PolicyDesk", "declareRule", "(LPolicyDesk$Line;LPolicyDesk$Verb;)I"⟩
theorem ok_PolicyDesk_declareRule : pd_ok y_PolicyDesk_declareRule prog_1_method_17_code 5 (some .int) 2 := ⟨mT_843, mT_1, by decide, by decide +kernel⟩
abbrev rm_PolicyDesk_declareRule : Room := { frames := 10, cells := 20, slots := 585, locals := 240 }
set_option maxHeartbeats 4000000 in
set_option maxRecDepth 100000 in
theorem c_PolicyDesk_declareRule (l : Launch) (G : pd_G) (h : pd_H) {x : Nat} {A B C : Nat → Nat} {t0 : List Nat} {n : Nat} {R : Nat → pd_cr} {k : Nat} {M : Nat → pd_mr} {u : Nat} {U : Nat → pd_rr} {T : Nat → List Nat} {kp nx : Nat} {sp : Int64} {an gn sn dn : Nat} {y v : Nat} {cs : List Nat} (hD : pd_DX G h x A B C t0 n R k M u U T kp nx sp an gn sn dn) (hL : pd_Ln h y cs) (hv : v < 13) (hsd : gr_said cs v = true) : pd_M l y_PolicyDesk_declareRule prog_1_method_17_code 5 (some .int) rm_PolicyDesk_declareRule G h [.ref x, .ref y, .ref (G.2.2.2 (10 + v))] Value.int (fun r h1 => r = (gr_dr n R k M u U cs v).1 ∧ pd_kx [9, 13, 14, 18] h h1 ∧ ∃ C2, pd_DX G h1 x A B C2 t0 n R k M ((gr_dr n R k M u U cs v).2.1) ((gr_dr n R k M u U cs v).2.2) T kp nx sp an gn sn dn) := by
  refine pd_M.of (by decide) (Nat.le_of_ble_eq_true rfl) ?_
  intro p e s m below meth c X hmn w ls hl
  have hx := X.1
  have hb := X.2.1
  have hl : lv_has ls 5 [(0, .ref x), (1, .ref y), (2, .ref (G.2.2.2 (10 + v)))] := hl
  obtain ⟨lb, cl, me, ru, bk, hx0, hz_x, hsb, hC, hM, hU, hA, ht60⟩ := id hD
  have hR := hC.rows
  have hMR := hM.mrows
  have hRR := hU.rrows
  have hcw := hR.2.2
  have hAi := hR.2.1
  have hn14 := hcw.1
  have ht21 : (2 : Nat) ≠ 1 := by decide
  have ht10 : (1 : Nat) ≠ 0 := by decide
  have ht20 : (2 : Nat) ≠ 0 := by decide
  refine lv_null hx hb d_p1m17_0 ?_
  refine lv_astore_nN (lv' := [(3, .null), (0, .ref x), (1, .ref y), (2, .ref (G.2.2.2 (10 + v)))]) hx hb d_p1m17_1 rfl hl (by decide) rfl (fun ls hl => ?_)
  refine lv_aload_n hx hb d_p1m17_2 rfl (lv_at hl 3 rfl) ?_
  refine pd_gets X w (List.mem_of_getElem? (i := 13) rfl) mT_844 d_p1m17_3 ?_
  refine lv_acmp_ne (rx := (some (G.2.2.2 (10 + v)))) (ry := (some (G.2.2.2 17))) (tgt := 36) hx hb d_p1m17_6 (by decide) (fun q1 => ?_) (fun q1 => ?_)
  · -- taken: 36
    have hvb7 : ¬ v = 7 := (fun e9 => q1 (by rw [e9]))
    refine lv_aload_n hx hb d_p1m17_36 rfl (lv_at hl 3 rfl) ?_
    refine pd_gets X w (List.mem_of_getElem? (i := 12) rfl) mT_858 d_p1m17_37 ?_
    refine lv_acmp_ne (rx := (some (G.2.2.2 (10 + v)))) (ry := (some (G.2.2.2 16))) (tgt := 54) hx hb d_p1m17_40 (by decide) (fun q2 => ?_) (fun q2 => ?_)
    · -- taken: 54
      have hvb6 : ¬ v = 6 := (fun e9 => q2 (by rw [e9]))
      refine lv_iconst (v := nI 0) hx hb d_p1m17_54 (by decide) ?_
      refine lv_istore (lv' := [(4, .int (nI 0)), (3, .null), (0, .ref x), (1, .ref y), (2, .ref (G.2.2.2 (10 + v)))]) hx hb d_p1m17_55 hl (by decide) rfl (fun ls hl => ?_)
      refine lv_aload_n hx hb d_p1m17_57 rfl (lv_at hl 2 rfl) ?_
      refine pd_get X w hx0 rfl 3 (by decide) mT_370 rfl rfl d_p1m17_58 ?_
      refine lv_aload_n hx hb d_p1m17_61 rfl (lv_at hl 4 rfl) ?_
      refine lv_aload_n hx hb d_p1m17_62 rfl (lv_at hl 3 rfl) ?_
      refine lv_iconst (v := nI 1) hx hb d_p1m17_63 (by decide) ?_
      obtain ⟨a6, st7, fA8, f9, f10, nu11, f12⟩ := id hL
      have hc13 := (gr_cut_ok cs).1
      obtain ⟨v14, g15, f16, f17, gf18, gc19, gl20⟩ := id f12
      refine pd_cV (a := y) (As := [.int (nI 1)]) (rest := [.ref (G.2.2.2 (10 + v)), .ref ru]) X w f9 rfl (c_Line_word l G h (by assumption) (by omega)) ok_Line_word ⟨mT_574, mT_575⟩ mT_573 ⟨by decide, by decide⟩ rfl hl.1 rfl (Nat.le_of_ble_eq_true rfl) d_p1m17_64 ⟨by decide, by decide⟩ (fun r3 h4 H locs hp5 w => ?_)
      refine W.widen (k := 2) (n := 64) (by decide) (by decide) ?_
      obtain ⟨k21, ds22, e23, f24⟩ := hp5
      have f32 := k21 _ _ hx0 List.not_mem_nil
      have f33 := k21 _ _ f9 List.not_mem_nil
      have f34 := k21 _ _ f16 List.not_mem_nil
      have f35 := k21 _ _ f17 List.not_mem_nil
      have f36 := hsb.kx k21 List.not_mem_nil List.not_mem_nil
      have f37 := hC.kx k21 List.not_mem_nil List.not_mem_nil List.not_mem_nil
      have f38 := hM.kx k21 List.not_mem_nil List.not_mem_nil List.not_mem_nil
      have f39 := hU.kx k21 List.not_mem_nil List.not_mem_nil List.not_mem_nil
      have f40 := hA.kx k21 List.not_mem_nil List.not_mem_nil List.not_mem_nil List.not_mem_nil List.not_mem_nil
      have f41 := hR.kx k21 List.not_mem_nil
      have f42 := hMR.kx k21 List.not_mem_nil
      have f43 := hRR.kx k21 List.not_mem_nil
      have f44 := hL.kx k21 List.not_mem_nil
      have f45 := f12.kx k21 List.not_mem_nil
      obtain ⟨v25, g26, f27, f28, gf29, gc30, gl31⟩ := id f24
      subst e23
      refine lv_iload hx hb d_p1m17_67 (lv_at hl 0 rfl) ?_
      refine lv_aload_nN hx hb d_p1m17_69 rfl (lv_at hl 1 rfl) ?_
      obtain ⟨ar49, g50, f51, f52, g53, hz54, hz55, z56, f57⟩ := id f39
      refine pd_cV (a := ru) (As := [.ref (G.2.2.2 (10 + v)), .ref r3, .int (nI 0), .null]) (rest := []) X w f51 rfl (c_Rules_add l G h4 (B := B) (C := C) (k := k) (u := u) (U := U) (v := v) (o := none) (by assumption) (by omega) (by omega) (by assumption) (fun t ht => by cases ht)) ok_Rules_add ⟨mT_864, mT_865⟩ mT_863 ⟨by decide, by decide⟩ rfl hl.1 rfl (Nat.le_of_ble_eq_true rfl) d_p1m17_70 ⟨by decide, by decide⟩ (fun r46 h47 H locs hp48 w => ?_)
      refine W.widen (k := 14) (n := 393) (by decide) (by decide) ?_
      obtain ⟨k58, e59, C60, f61⟩ := hp48
      have f62 := k58 _ _ f32 (show (5 : Nat) ∉ [9, 13, 14, 18] by decide)
      have f63 := k58 _ _ f33 (show (0 : Nat) ∉ [9, 13, 14, 18] by decide)
      have f64 := k58 _ _ f34 (show (0 : Nat) ∉ [9, 13, 14, 18] by decide)
      have f65 := k58 _ _ f27 (show (0 : Nat) ∉ [9, 13, 14, 18] by decide)
      have f66 := k58 _ _ f35 (show (0 : Nat) ∉ [9, 13, 14, 18] by decide)
      have f67 := k58 _ _ f28 (show (0 : Nat) ∉ [9, 13, 14, 18] by decide)
      have f68 := f36.kx k58 (show (1 : Nat) ∉ [9, 13, 14, 18] by decide) (show (2 : Nat) ∉ [9, 13, 14, 18] by decide)
      have f69 := f37.kx k58 (show (6 : Nat) ∉ [9, 13, 14, 18] by decide) (show (10 : Nat) ∉ [9, 13, 14, 18] by decide) (show (0 : Nat) ∉ [9, 13, 14, 18] by decide)
      have f70 := f38.kx k58 (show (11 : Nat) ∉ [9, 13, 14, 18] by decide) (show (12 : Nat) ∉ [9, 13, 14, 18] by decide) (show (0 : Nat) ∉ [9, 13, 14, 18] by decide)
      have f71 := f40.kx k58 (show (15 : Nat) ∉ [9, 13, 14, 18] by decide) (show (16 : Nat) ∉ [9, 13, 14, 18] by decide) (show (17 : Nat) ∉ [9, 13, 14, 18] by decide) (show (3 : Nat) ∉ [9, 13, 14, 18] by decide) (show (4 : Nat) ∉ [9, 13, 14, 18] by decide)
      have f72 := f41.kx k58 (show (0 : Nat) ∉ [9, 13, 14, 18] by decide)
      have f73 := f42.kx k58 (show (0 : Nat) ∉ [9, 13, 14, 18] by decide)
      have f74 := f44.kx k58 (show (0 : Nat) ∉ [9, 13, 14, 18] by decide)
      have f75 := f45.kx k58 (show (0 : Nat) ∉ [9, 13, 14, 18] by decide)
      have f76 := f24.kx k58 (show (0 : Nat) ∉ [9, 13, 14, 18] by decide)
      have hg : gr_dr n R k M u U cs v = gr_radd u U (v, gr_w cs 1, 0, none) := by unfold gr_dr; rw [if_neg hvb7, if_neg hvb6]
      exact pd_iret (v := r46) X w ⟨by rw [hg]; exact e59, pd_kx.tr (pd_kx.mono (us := [9, 13, 14, 18]) (k21) (by simp)) (k58), C60, (by rw [hg]; exact ⟨lb, cl, me, ru, bk, f62, hz_x, f68, f69, f70, f61, f71, ht60⟩)⟩ (by decide) (by decide) d_p1m17_73
    · -- not taken: 43
      have hvb6 : v = 6 := ((pd_Kf_of X).2.2.2.2.2.2 _ 6 hv (by decide) (Option.some.inj q2))
      refine lv_aload_n hx hb d_p1m17_43 rfl (lv_at hl 2 rfl) ?_
      refine lv_iconst (v := nI 2) hx hb d_p1m17_44 (by decide) ?_
      obtain ⟨a80, st81, fA82, f83, f84, nu85, f86⟩ := id hL
      have hc87 := (gr_cut_ok cs).1
      obtain ⟨v88, g89, f90, f91, gf92, gc93, gl94⟩ := id f86
      refine pd_cV (a := y) (As := [.int (nI 2)]) (rest := []) X w f83 rfl (c_Line_word l G h (by assumption) (by omega)) ok_Line_word ⟨mT_574, mT_575⟩ mT_573 ⟨by decide, by decide⟩ rfl hl.1 rfl (Nat.le_of_ble_eq_true rfl) d_p1m17_45 ⟨by decide, by decide⟩ (fun r77 h78 H locs hp79 w => ?_)
      refine W.widen (k := 2) (n := 64) (by decide) (by decide) ?_
      obtain ⟨k95, ds96, e97, f98⟩ := hp79
      have f106 := k95 _ _ hx0 List.not_mem_nil
      have f107 := k95 _ _ f83 List.not_mem_nil
      have f108 := k95 _ _ f90 List.not_mem_nil
      have f109 := k95 _ _ f91 List.not_mem_nil
      have f110 := hsb.kx k95 List.not_mem_nil List.not_mem_nil
      have f111 := hC.kx k95 List.not_mem_nil List.not_mem_nil List.not_mem_nil
      have f112 := hM.kx k95 List.not_mem_nil List.not_mem_nil List.not_mem_nil
      have f113 := hU.kx k95 List.not_mem_nil List.not_mem_nil List.not_mem_nil
      have f114 := hA.kx k95 List.not_mem_nil List.not_mem_nil List.not_mem_nil List.not_mem_nil List.not_mem_nil
      have f115 := hR.kx k95 List.not_mem_nil
      have f116 := hMR.kx k95 List.not_mem_nil
      have f117 := hRR.kx k95 List.not_mem_nil
      have f118 := hL.kx k95 List.not_mem_nil
      have f119 := f86.kx k95 List.not_mem_nil
      obtain ⟨v99, g100, f101, f102, gf103, gc104, gl105⟩ := id f98
      subst e97
      refine pd_cS (As := [.ref r77]) (rest := []) X w (c_Grammar_costOf l G h78 (by assumption) (gr_cost_d (gr_said_6 (by rw [← hvb6]; exact hsd))) (gr_cost_l (gr_said_6 (by rw [← hvb6]; exact hsd)))) ok_Grammar_costOf mT_861 mT_860 ⟨by decide, by decide⟩ rfl hl.1 rfl (Nat.le_of_ble_eq_true rfl) d_p1m17_48 ⟨by decide, by decide⟩ (fun r120 h121 H locs hp122 w => ?_)
      refine W.widen (k := 2) (n := 64) (by decide) (by decide) ?_
      obtain ⟨e123, rfl⟩ := hp122
      subst e123
      have hnum : gr_num (gr_w cs 2) < 1000 := gr_num_lt (gr_said_6 (by rw [← hvb6]; exact hsd))
      refine lv_goto (tgt := 55) hx hb d_p1m17_51 (by decide) ?_
      refine lv_istore (lv' := [(4, .int (nI (gr_num (gr_w cs 2)))), (3, .null), (0, .ref x), (1, .ref y), (2, .ref (G.2.2.2 (10 + v)))]) hx hb d_p1m17_55 hl (by decide) rfl (fun ls hl => ?_)
      refine lv_aload_n hx hb d_p1m17_57 rfl (lv_at hl 2 rfl) ?_
      refine pd_get X w f106 rfl 3 (by decide) mT_370 rfl rfl d_p1m17_58 ?_
      refine lv_aload_n hx hb d_p1m17_61 rfl (lv_at hl 4 rfl) ?_
      refine lv_aload_n hx hb d_p1m17_62 rfl (lv_at hl 3 rfl) ?_
      refine lv_iconst (v := nI 1) hx hb d_p1m17_63 (by decide) ?_
      refine pd_cV (a := y) (As := [.int (nI 1)]) (rest := [.ref (G.2.2.2 (10 + v)), .ref ru]) X w f107 rfl (c_Line_word l G h78 (by assumption) (by omega)) ok_Line_word ⟨mT_574, mT_575⟩ mT_573 ⟨by decide, by decide⟩ rfl hl.1 rfl (Nat.le_of_ble_eq_true rfl) d_p1m17_64 ⟨by decide, by decide⟩ (fun r124 h125 H locs hp126 w => ?_)
      refine W.widen (k := 4) (n := 128) (by decide) (by decide) ?_
      obtain ⟨k127, ds128, e129, f130⟩ := hp126
      have f138 := k127 _ _ f106 List.not_mem_nil
      have f139 := k127 _ _ f107 List.not_mem_nil
      have f140 := k127 _ _ f108 List.not_mem_nil
      have f141 := k127 _ _ f101 List.not_mem_nil
      have f142 := k127 _ _ f109 List.not_mem_nil
      have f143 := k127 _ _ f102 List.not_mem_nil
      have f144 := f110.kx k127 List.not_mem_nil List.not_mem_nil
      have f145 := f111.kx k127 List.not_mem_nil List.not_mem_nil List.not_mem_nil
      have f146 := f112.kx k127 List.not_mem_nil List.not_mem_nil List.not_mem_nil
      have f147 := f113.kx k127 List.not_mem_nil List.not_mem_nil List.not_mem_nil
      have f148 := f114.kx k127 List.not_mem_nil List.not_mem_nil List.not_mem_nil List.not_mem_nil List.not_mem_nil
      have f149 := f115.kx k127 List.not_mem_nil
      have f150 := f116.kx k127 List.not_mem_nil
      have f151 := f117.kx k127 List.not_mem_nil
      have f152 := f118.kx k127 List.not_mem_nil
      have f153 := f119.kx k127 List.not_mem_nil
      have f154 := f98.kx k127 List.not_mem_nil
      obtain ⟨v131, g132, f133, f134, gf135, gc136, gl137⟩ := id f130
      subst e129
      refine lv_iload hx hb d_p1m17_67 (lv_at hl 0 rfl) ?_
      refine lv_aload_nN hx hb d_p1m17_69 rfl (lv_at hl 1 rfl) ?_
      obtain ⟨ar158, g159, f160, f161, g162, hz163, hz164, z165, f166⟩ := id f147
      refine pd_cV (a := ru) (As := [.ref (G.2.2.2 (10 + v)), .ref r124, .int (nI (gr_num (gr_w cs 2))), .null]) (rest := []) X w f160 rfl (c_Rules_add l G h125 (B := B) (C := C) (k := k) (u := u) (U := U) (v := v) (o := none) (by assumption) (by omega) hnum (by assumption) (fun t ht => by cases ht)) ok_Rules_add ⟨mT_864, mT_865⟩ mT_863 ⟨by decide, by decide⟩ rfl hl.1 rfl (Nat.le_of_ble_eq_true rfl) d_p1m17_70 ⟨by decide, by decide⟩ (fun r155 h156 H locs hp157 w => ?_)
      refine W.widen (k := 16) (n := 457) (by decide) (by decide) ?_
      obtain ⟨k167, e168, C169, f170⟩ := hp157
      have f171 := k167 _ _ f138 (show (5 : Nat) ∉ [9, 13, 14, 18] by decide)
      have f172 := k167 _ _ f139 (show (0 : Nat) ∉ [9, 13, 14, 18] by decide)
      have f173 := k167 _ _ f140 (show (0 : Nat) ∉ [9, 13, 14, 18] by decide)
      have f174 := k167 _ _ f141 (show (0 : Nat) ∉ [9, 13, 14, 18] by decide)
      have f175 := k167 _ _ f133 (show (0 : Nat) ∉ [9, 13, 14, 18] by decide)
      have f176 := k167 _ _ f142 (show (0 : Nat) ∉ [9, 13, 14, 18] by decide)
      have f177 := k167 _ _ f143 (show (0 : Nat) ∉ [9, 13, 14, 18] by decide)
      have f178 := k167 _ _ f134 (show (0 : Nat) ∉ [9, 13, 14, 18] by decide)
      have f179 := f144.kx k167 (show (1 : Nat) ∉ [9, 13, 14, 18] by decide) (show (2 : Nat) ∉ [9, 13, 14, 18] by decide)
      have f180 := f145.kx k167 (show (6 : Nat) ∉ [9, 13, 14, 18] by decide) (show (10 : Nat) ∉ [9, 13, 14, 18] by decide) (show (0 : Nat) ∉ [9, 13, 14, 18] by decide)
      have f181 := f146.kx k167 (show (11 : Nat) ∉ [9, 13, 14, 18] by decide) (show (12 : Nat) ∉ [9, 13, 14, 18] by decide) (show (0 : Nat) ∉ [9, 13, 14, 18] by decide)
      have f182 := f148.kx k167 (show (15 : Nat) ∉ [9, 13, 14, 18] by decide) (show (16 : Nat) ∉ [9, 13, 14, 18] by decide) (show (17 : Nat) ∉ [9, 13, 14, 18] by decide) (show (3 : Nat) ∉ [9, 13, 14, 18] by decide) (show (4 : Nat) ∉ [9, 13, 14, 18] by decide)
      have f183 := f149.kx k167 (show (0 : Nat) ∉ [9, 13, 14, 18] by decide)
      have f184 := f150.kx k167 (show (0 : Nat) ∉ [9, 13, 14, 18] by decide)
      have f185 := f152.kx k167 (show (0 : Nat) ∉ [9, 13, 14, 18] by decide)
      have f186 := f153.kx k167 (show (0 : Nat) ∉ [9, 13, 14, 18] by decide)
      have f187 := f154.kx k167 (show (0 : Nat) ∉ [9, 13, 14, 18] by decide)
      have f188 := f130.kx k167 (show (0 : Nat) ∉ [9, 13, 14, 18] by decide)
      have hg : gr_dr n R k M u U cs v = gr_radd u U (v, gr_w cs 1, gr_num (gr_w cs 2), none) := by unfold gr_dr; rw [if_neg hvb7, if_pos hvb6]
      exact pd_iret (v := r155) X w ⟨by rw [hg]; exact e168, pd_kx.tr (pd_kx.mono (us := [9, 13, 14, 18]) (pd_kx.tr (k95) (k127)) (by simp)) (k167), C169, (by rw [hg]; exact ⟨lb, cl, me, ru, bk, f171, hz_x, f179, f180, f181, f170, f182, ht60⟩)⟩ (by decide) (by decide) d_p1m17_73
  · -- not taken: 9
    have hvb7 : v = 7 := ((pd_Kf_of X).2.2.2.2.2.2 _ 7 hv (by decide) (Option.some.inj q1))
    refine lv_aload_n hx hb d_p1m17_9 rfl (lv_at hl 1 rfl) ?_
    refine lv_aload_n hx hb d_p1m17_10 rfl (lv_at hl 2 rfl) ?_
    refine lv_iconst (v := nI 2) hx hb d_p1m17_11 (by decide) ?_
    obtain ⟨a192, st193, fA194, f195, f196, nu197, f198⟩ := id hL
    have hc199 := (gr_cut_ok cs).1
    obtain ⟨v200, g201, f202, f203, gf204, gc205, gl206⟩ := id f198
    refine pd_cV (a := y) (As := [.int (nI 2)]) (rest := [.ref x]) X w f195 rfl (c_Line_word l G h (by assumption) (by omega)) ok_Line_word ⟨mT_574, mT_575⟩ mT_573 ⟨by decide, by decide⟩ rfl hl.1 rfl (Nat.le_of_ble_eq_true rfl) d_p1m17_12 ⟨by decide, by decide⟩ (fun r189 h190 H locs hp191 w => ?_)
    refine W.widen (k := 2) (n := 64) (by decide) (by decide) ?_
    obtain ⟨k207, ds208, e209, f210⟩ := hp191
    have f218 := k207 _ _ hx0 List.not_mem_nil
    have f219 := k207 _ _ f195 List.not_mem_nil
    have f220 := k207 _ _ f202 List.not_mem_nil
    have f221 := k207 _ _ f203 List.not_mem_nil
    have f222 := hsb.kx k207 List.not_mem_nil List.not_mem_nil
    have f223 := hC.kx k207 List.not_mem_nil List.not_mem_nil List.not_mem_nil
    have f224 := hM.kx k207 List.not_mem_nil List.not_mem_nil List.not_mem_nil
    have f225 := hU.kx k207 List.not_mem_nil List.not_mem_nil List.not_mem_nil
    have f226 := hA.kx k207 List.not_mem_nil List.not_mem_nil List.not_mem_nil List.not_mem_nil List.not_mem_nil
    have f227 := hR.kx k207 List.not_mem_nil
    have f228 := hMR.kx k207 List.not_mem_nil
    have f229 := hRR.kx k207 List.not_mem_nil
    have f230 := hL.kx k207 List.not_mem_nil
    have f231 := f198.kx k207 List.not_mem_nil
    obtain ⟨v211, g212, f213, f214, gf215, gc216, gl217⟩ := id f210
    subst e209
    refine pd_cV (a := x) (As := [.ref r189]) (rest := []) X w f218 rfl (c_PolicyDesk_standInOf l G h190 (A := A) (B := B) (C := C) (t0 := t0) (n := n) (R := R) (k := k) (M := M) (u := u) (U := U) (T := T) (kp := kp) (nx := nx) (sp := sp) (an := an) (gn := gn) (sn := sn) (dn := dn) (⟨lb, cl, me, ru, bk, f218, hz_x, f222, f223, f224, f225, f226, ht60⟩) (by assumption)) ok_PolicyDesk_standInOf ⟨mT_848, sT_6⟩ mT_846 ⟨by decide, by decide⟩ rfl hl.1 rfl (Nat.le_of_ble_eq_true rfl) d_p1m17_15 ⟨by decide, by decide⟩ (fun r232 h233 H locs hp234 w => ?_)
    refine W.widen (k := 6) (n := 192) (by decide) (by decide) ?_
    obtain ⟨k235, e236⟩ := hp234
    have f237 := k235 _ _ f218 List.not_mem_nil
    have f238 := k235 _ _ f219 List.not_mem_nil
    have f239 := k235 _ _ f220 List.not_mem_nil
    have f240 := k235 _ _ f213 List.not_mem_nil
    have f241 := k235 _ _ f221 List.not_mem_nil
    have f242 := k235 _ _ f214 List.not_mem_nil
    have f243 := f222.kx k235 List.not_mem_nil List.not_mem_nil
    have f244 := f223.kx k235 List.not_mem_nil List.not_mem_nil List.not_mem_nil
    have f245 := f224.kx k235 List.not_mem_nil List.not_mem_nil List.not_mem_nil
    have f246 := f225.kx k235 List.not_mem_nil List.not_mem_nil List.not_mem_nil
    have f247 := f226.kx k235 List.not_mem_nil List.not_mem_nil List.not_mem_nil List.not_mem_nil List.not_mem_nil
    have f248 := f227.kx k235 List.not_mem_nil
    have f249 := f228.kx k235 List.not_mem_nil
    have f250 := f229.kx k235 List.not_mem_nil
    have f251 := f230.kx k235 List.not_mem_nil
    have f252 := f231.kx k235 List.not_mem_nil
    have f253 := f210.kx k235 List.not_mem_nil
    refine pd_ostore_n (lv' := [(3, va_rf r232), (0, .ref x), (1, .ref y), (2, .ref (G.2.2.2 (10 + v)))]) hx hb d_p1m17_18 rfl hl (by decide) rfl (fun ls hl => ?_)
    refine pd_oload_n hx hb d_p1m17_19 rfl (lv_at hl 0 rfl) ?_
    rcases pd_om e236 with ⟨q254, q257⟩ | ⟨i256, q254, q257⟩
    · -- none
      refine pd_top (v' := .null) (by rw [q257]; rfl) ?_
      rw [q257] at hl
      have hl : lv_has ls 5 [(3, .null), (0, .ref x), (1, .ref y), (2, .ref (G.2.2.2 (10 + v)))] := hl
      refine lv_ifnonnullN hx hb d_p1m17_20 ?_
      refine lv_bipush (v := -2) hx hb d_p1m17_23 (by decide) ?_
      have hg : gr_dr n R k M u U cs v = (-2, u, U) := by unfold gr_dr; rw [if_pos hvb7]; simp only [q254]
      exact pd_iret (v := (-2)) X w ⟨by rw [hg], pd_kx.mono (us := [9, 13, 14, 18]) (pd_kx.tr (k207) (k235)) (by simp), C, (by rw [hg]; exact ⟨lb, cl, me, ru, bk, f237, hz_x, f243, f244, f245, f246, f247, ht60⟩)⟩ (by decide) (by decide) d_p1m17_25
    · -- some
      refine pd_top (v' := .ref (B i256)) (by rw [q257]; rfl) ?_
      rw [q257] at hl
      have hl : lv_has ls 5 [(3, .ref (B i256)), (0, .ref x), (1, .ref y), (2, .ref (G.2.2.2 (10 + v)))] := hl
      have i256lt := gr_si_lt q254
      refine lv_ifnonnull (tgt := 26) hx hb d_p1m17_20 (by decide) ?_
      refine lv_aload_n hx hb d_p1m17_26 rfl (lv_at hl 0 rfl) ?_
      obtain ⟨⟨nm263, sh264, f265, f266, f267⟩, z268, z269⟩ := f249 i256 (by omega)
      obtain ⟨v270, g271, f272, f273, gf274, gc275, gl276⟩ := id f266
      obtain ⟨v277, g278, f279, f280, gf281, gc282, gl283⟩ := id f267
      refine pd_cV (a := (B i256)) (As := []) (rest := []) X w f265 rfl (c_MemberRow_isStatic l G h233 (by assumption) (by omega)) ok_MemberRow_isStatic ⟨mT_855, mT_856⟩ mT_854 ⟨by decide, by decide⟩ rfl hl.1 rfl (Nat.le_of_ble_eq_true rfl) d_p1m17_27 ⟨by decide, by decide⟩ (fun r260 h261 H locs hp262 w => ?_)
      refine W.widen (k := 6) (n := 192) (by decide) (by decide) ?_
      obtain ⟨e284, rfl⟩ := hp262
      refine pd_bne (tgt := 36) hx hb d_p1m17_30 (by decide) (fun q285 => ?_) (fun q285 => ?_)
      · -- taken: 36
        refine lv_aload_n hx hb d_p1m17_36 rfl (lv_at hl 3 rfl) ?_
        refine pd_gets X w (List.mem_of_getElem? (i := 12) rfl) mT_858 d_p1m17_37 ?_
        refine lv_acmp_ne (rx := (some (G.2.2.2 (10 + v)))) (ry := (some (G.2.2.2 16))) (tgt := 54) hx hb d_p1m17_40 (by decide) (fun q286 => ?_) (fun q286 => ?_)
        · -- taken: 54
          have hvb6 : ¬ v = 6 := (fun e9 => q286 (by rw [e9]))
          refine lv_iconst (v := nI 0) hx hb d_p1m17_54 (by decide) ?_
          refine lv_istore (lv' := [(4, .int (nI 0)), (3, .ref (B i256)), (0, .ref x), (1, .ref y), (2, .ref (G.2.2.2 (10 + v)))]) hx hb d_p1m17_55 hl (by decide) rfl (fun ls hl => ?_)
          refine lv_aload_n hx hb d_p1m17_57 rfl (lv_at hl 2 rfl) ?_
          refine pd_get X w f237 rfl 3 (by decide) mT_370 rfl rfl d_p1m17_58 ?_
          refine lv_aload_n hx hb d_p1m17_61 rfl (lv_at hl 4 rfl) ?_
          refine lv_aload_n hx hb d_p1m17_62 rfl (lv_at hl 3 rfl) ?_
          refine lv_iconst (v := nI 1) hx hb d_p1m17_63 (by decide) ?_
          refine pd_cV (a := y) (As := [.int (nI 1)]) (rest := [.ref (G.2.2.2 (10 + v)), .ref ru]) X w f238 rfl (c_Line_word l G h233 (by assumption) (by omega)) ok_Line_word ⟨mT_574, mT_575⟩ mT_573 ⟨by decide, by decide⟩ rfl hl.1 rfl (Nat.le_of_ble_eq_true rfl) d_p1m17_64 ⟨by decide, by decide⟩ (fun r287 h288 H locs hp289 w => ?_)
          refine W.widen (k := 8) (n := 256) (by decide) (by decide) ?_
          obtain ⟨k290, ds291, e292, f293⟩ := hp289
          have f301 := k290 _ _ f237 List.not_mem_nil
          have f302 := k290 _ _ f238 List.not_mem_nil
          have f303 := k290 _ _ f239 List.not_mem_nil
          have f304 := k290 _ _ f240 List.not_mem_nil
          have f305 := k290 _ _ f265 List.not_mem_nil
          have f306 := k290 _ _ f272 List.not_mem_nil
          have f307 := k290 _ _ f279 List.not_mem_nil
          have f308 := k290 _ _ f241 List.not_mem_nil
          have f309 := k290 _ _ f242 List.not_mem_nil
          have f310 := k290 _ _ f273 List.not_mem_nil
          have f311 := k290 _ _ f280 List.not_mem_nil
          have f312 := f243.kx k290 List.not_mem_nil List.not_mem_nil
          have f313 := f244.kx k290 List.not_mem_nil List.not_mem_nil List.not_mem_nil
          have f314 := f245.kx k290 List.not_mem_nil List.not_mem_nil List.not_mem_nil
          have f315 := f246.kx k290 List.not_mem_nil List.not_mem_nil List.not_mem_nil
          have f316 := f247.kx k290 List.not_mem_nil List.not_mem_nil List.not_mem_nil List.not_mem_nil List.not_mem_nil
          have f317 := f248.kx k290 List.not_mem_nil
          have f318 := f249.kx k290 List.not_mem_nil
          have f319 := f250.kx k290 List.not_mem_nil
          have f320 := f251.kx k290 List.not_mem_nil
          have f321 := f252.kx k290 List.not_mem_nil
          have f322 := f253.kx k290 List.not_mem_nil
          have f323 := f266.kx k290 List.not_mem_nil
          have f324 := f267.kx k290 List.not_mem_nil
          obtain ⟨v294, g295, f296, f297, gf298, gc299, gl300⟩ := id f293
          subst e292
          refine lv_iload hx hb d_p1m17_67 (lv_at hl 0 rfl) ?_
          refine lv_aload_n hx hb d_p1m17_69 rfl (lv_at hl 1 rfl) ?_
          obtain ⟨ar328, g329, f330, f331, g332, hz333, hz334, z335, f336⟩ := id f315
          refine pd_cV (a := ru) (As := [.ref (G.2.2.2 (10 + v)), .ref r287, .int (nI 0), .ref (B i256)]) (rest := []) X w f330 rfl (c_Rules_add l G h288 (B := B) (C := C) (k := k) (u := u) (U := U) (v := v) (o := some i256) (by assumption) (by omega) (by omega) (by assumption) (fun t ht => by cases ht; omega)) ok_Rules_add ⟨mT_864, mT_865⟩ mT_863 ⟨by decide, by decide⟩ rfl hl.1 rfl (Nat.le_of_ble_eq_true rfl) d_p1m17_70 ⟨by decide, by decide⟩ (fun r325 h326 H locs hp327 w => ?_)
          refine W.widen (k := 20) (n := 585) (by decide) (by decide) ?_
          obtain ⟨k337, e338, C339, f340⟩ := hp327
          have f341 := k337 _ _ f301 (show (5 : Nat) ∉ [9, 13, 14, 18] by decide)
          have f342 := k337 _ _ f302 (show (0 : Nat) ∉ [9, 13, 14, 18] by decide)
          have f343 := k337 _ _ f303 (show (0 : Nat) ∉ [9, 13, 14, 18] by decide)
          have f344 := k337 _ _ f304 (show (0 : Nat) ∉ [9, 13, 14, 18] by decide)
          have f345 := k337 _ _ f305 (show (0 : Nat) ∉ [9, 13, 14, 18] by decide)
          have f346 := k337 _ _ f306 (show (0 : Nat) ∉ [9, 13, 14, 18] by decide)
          have f347 := k337 _ _ f307 (show (0 : Nat) ∉ [9, 13, 14, 18] by decide)
          have f348 := k337 _ _ f296 (show (0 : Nat) ∉ [9, 13, 14, 18] by decide)
          have f349 := k337 _ _ f308 (show (0 : Nat) ∉ [9, 13, 14, 18] by decide)
          have f350 := k337 _ _ f309 (show (0 : Nat) ∉ [9, 13, 14, 18] by decide)
          have f351 := k337 _ _ f310 (show (0 : Nat) ∉ [9, 13, 14, 18] by decide)
          have f352 := k337 _ _ f311 (show (0 : Nat) ∉ [9, 13, 14, 18] by decide)
          have f353 := k337 _ _ f297 (show (0 : Nat) ∉ [9, 13, 14, 18] by decide)
          have f354 := f312.kx k337 (show (1 : Nat) ∉ [9, 13, 14, 18] by decide) (show (2 : Nat) ∉ [9, 13, 14, 18] by decide)
          have f355 := f313.kx k337 (show (6 : Nat) ∉ [9, 13, 14, 18] by decide) (show (10 : Nat) ∉ [9, 13, 14, 18] by decide) (show (0 : Nat) ∉ [9, 13, 14, 18] by decide)
          have f356 := f314.kx k337 (show (11 : Nat) ∉ [9, 13, 14, 18] by decide) (show (12 : Nat) ∉ [9, 13, 14, 18] by decide) (show (0 : Nat) ∉ [9, 13, 14, 18] by decide)
          have f357 := f316.kx k337 (show (15 : Nat) ∉ [9, 13, 14, 18] by decide) (show (16 : Nat) ∉ [9, 13, 14, 18] by decide) (show (17 : Nat) ∉ [9, 13, 14, 18] by decide) (show (3 : Nat) ∉ [9, 13, 14, 18] by decide) (show (4 : Nat) ∉ [9, 13, 14, 18] by decide)
          have f358 := f317.kx k337 (show (0 : Nat) ∉ [9, 13, 14, 18] by decide)
          have f359 := f318.kx k337 (show (0 : Nat) ∉ [9, 13, 14, 18] by decide)
          have f360 := f320.kx k337 (show (0 : Nat) ∉ [9, 13, 14, 18] by decide)
          have f361 := f321.kx k337 (show (0 : Nat) ∉ [9, 13, 14, 18] by decide)
          have f362 := f322.kx k337 (show (0 : Nat) ∉ [9, 13, 14, 18] by decide)
          have f363 := f323.kx k337 (show (0 : Nat) ∉ [9, 13, 14, 18] by decide)
          have f364 := f324.kx k337 (show (0 : Nat) ∉ [9, 13, 14, 18] by decide)
          have f365 := f293.kx k337 (show (0 : Nat) ∉ [9, 13, 14, 18] by decide)
          have hg : gr_dr n R k M u U cs v = gr_radd u U (v, gr_w cs 1, 0, some i256) := by unfold gr_dr; rw [if_pos hvb7]; simp only [q254]; rw [if_pos (e284.symm.trans q285)]
          exact pd_iret (v := r325) X w ⟨by rw [hg]; exact e338, pd_kx.tr (pd_kx.mono (us := [9, 13, 14, 18]) (pd_kx.tr (pd_kx.tr (k207) (k235)) (k290)) (by simp)) (k337), C339, (by rw [hg]; exact ⟨lb, cl, me, ru, bk, f341, hz_x, f354, f355, f356, f340, f357, ht60⟩)⟩ (by decide) (by decide) d_p1m17_73
        · -- not taken: 43
          have hvb6 : v = 6 := ((pd_Kf_of X).2.2.2.2.2.2 _ 6 hv (by decide) (Option.some.inj q286))
          exfalso
          omega
      · -- not taken: 33
        refine lv_bipush (v := -4) hx hb d_p1m17_33 (by decide) ?_
        have hg : gr_dr n R k M u U cs v = (-4, u, U) := by unfold gr_dr; rw [if_pos hvb7]; simp only [q254]; rw [if_neg (fun h9 => by rw [← e284, q285] at h9; cases h9)]
        exact pd_iret (v := (-4)) X w ⟨by rw [hg], pd_kx.mono (us := [9, 13, 14, 18]) (pd_kx.tr (k207) (k235)) (by simp), C, (by rw [hg]; exact ⟨lb, cl, me, ru, bk, f237, hz_x, f243, f244, f245, f246, f247, ht60⟩)⟩ (by decide) (by decide) d_p1m17_35
