theorem gm_fs_y {g : Nat → Option Nat} {b : Nat} : ∀ {od : List Nat} {i : Nat}, i < od.length → (∀ t, t < i → g (od.getD t 0) = none) → g (od.getD i 0) = some b → od.findSome? g = some b
  | [], i, h, _, _ => absurd h (Nat.not_lt_zero i)
  | x :: od, 0, _, _, h => by
    have h : g x = some b := h
    rw [List.findSome?_cons, h]
  | x :: od, i + 1, hl, h1, h2 => by
    have h0 : g x = none := h1 0 (by omega)
    rw [List.findSome?_cons, h0]
    exact gm_fs_y (i := i) (by simpa using hl) (fun t ht => by have := h1 (t + 1) (by omega); simpa using this) (by simpa using h2)
theorem gm_fs_n {g : Nat → Option Nat} : ∀ {od : List Nat}, (∀ t, t < od.length → g (od.getD t 0) = none) → od.findSome? g = none
  | [], _ => rfl
  | x :: od, h => by
    have h0 : g x = none := h 0 (by simp)
    rw [List.findSome?_cons, h0]
    exact gm_fs_n (fun t ht => by have := h (t + 1) (by simpa using ht); simpa using this)
theorem gm_cl.cl {R : Nat → pd_cr} {od : List Nat} (h : gm_cl R none od) : ∀ z ∈ od, (R z).2.1 = true → ∀ w ∈ (R z).2.2.2.2.2.2, w ∈ od := fun z hz hi => (h z hz hi).resolve_left (by simp)
def gm_fld (R : Nat → pd_cr) (x : Nat) : List Nat := (gm_ch R 14 (some x)).foldl (gm_G R) []
theorem d_p15m25_0 : decode prog_15_method_25_code 0 = .ok (.aload_n 0, 1) := by decide +kernel
theorem d_p15m25_1 : decode prog_15_method_25_code 1 = .ok (.iconst 0, 1) := by decide +kernel
theorem d_p15m25_2 : decode prog_15_method_25_code 2 = .ok (.putfield 158, 3) := by decide +kernel
theorem d_p15m25_5 : decode prog_15_method_25_code 5 = .ok (.iload_n 1, 1) := by decide +kernel
theorem d_p15m25_6 : decode prog_15_method_25_code 6 = .ok (.istore 5, 2) := by decide +kernel
theorem d_p15m25_8 : decode prog_15_method_25_code 8 = .ok (.iload 5, 2) := by decide +kernel
theorem d_p15m25_10 : decode prog_15_method_25_code 10 = .ok (.ifCond .lt 56, 3) := by decide +kernel
theorem d_p15m25_13 : decode prog_15_method_25_code 13 = .ok (.aload_n 0, 1) := by decide +kernel
theorem d_p15m25_14 : decode prog_15_method_25_code 14 = .ok (.iload 5, 2) := by decide +kernel
theorem d_p15m25_16 : decode prog_15_method_25_code 16 = .ok (.invokevirtual 155, 3) := by decide +kernel
theorem d_p15m25_19 : decode prog_15_method_25_code 19 = .ok (.ifCond .ne 24, 3) := by decide +kernel
theorem d_p15m25_22 : decode prog_15_method_25_code 22 = .ok (.aload_n 0, 1) := by decide +kernel
theorem d_p15m25_23 : decode prog_15_method_25_code 23 = .ok (.getfield 93, 3) := by decide +kernel
theorem d_p15m25_26 : decode prog_15_method_25_code 26 = .ok (.aload_n 0, 1) := by decide +kernel
theorem d_p15m25_27 : decode prog_15_method_25_code 27 = .ok (.getfield 158, 3) := by decide +kernel
theorem d_p15m25_30 : decode prog_15_method_25_code 30 = .ok (.iload 5, 2) := by decide +kernel
theorem d_p15m25_32 : decode prog_15_method_25_code 32 = .ok (.iastore, 1) := by decide +kernel
theorem d_p15m25_33 : decode prog_15_method_25_code 33 = .ok (.aload_n 0, 1) := by decide +kernel
theorem d_p15m25_34 : decode prog_15_method_25_code 34 = .ok (.dup, 1) := by decide +kernel
theorem d_p15m25_35 : decode prog_15_method_25_code 35 = .ok (.getfield 158, 3) := by decide +kernel
theorem d_p15m25_38 : decode prog_15_method_25_code 38 = .ok (.iconst 1, 1) := by decide +kernel
theorem d_p15m25_39 : decode prog_15_method_25_code 39 = .ok (.iadd, 1) := by decide +kernel
theorem d_p15m25_40 : decode prog_15_method_25_code 40 = .ok (.putfield 158, 3) := by decide +kernel
theorem d_p15m25_43 : decode prog_15_method_25_code 43 = .ok (.iload 4, 2) := by decide +kernel
theorem d_p15m25_45 : decode prog_15_method_25_code 45 = .ok (.ifCond .ne 9, 3) := by decide +kernel
theorem d_p15m25_48 : decode prog_15_method_25_code 48 = .ok (.aload_n 0, 1) := by decide +kernel
theorem d_p15m25_49 : decode prog_15_method_25_code 49 = .ok (.iload 5, 2) := by decide +kernel
theorem d_p15m25_51 : decode prog_15_method_25_code 51 = .ok (.invokevirtual 161, 3) := by decide +kernel
theorem d_p15m25_54 : decode prog_15_method_25_code 54 = .ok (.aload_n 0, 1) := by decide +kernel
theorem d_p15m25_55 : decode prog_15_method_25_code 55 = .ok (.getfield 25, 3) := by decide +kernel
theorem d_p15m25_58 : decode prog_15_method_25_code 58 = .ok (.iload 5, 2) := by decide +kernel
theorem d_p15m25_60 : decode prog_15_method_25_code 60 = .ok (.iaload, 1) := by decide +kernel
theorem d_p15m25_61 : decode prog_15_method_25_code 61 = .ok (.istore 5, 2) := by decide +kernel
theorem d_p15m25_63 : decode prog_15_method_25_code 63 = .ok (.goto (-55), 3) := by decide +kernel
theorem d_p15m25_66 : decode prog_15_method_25_code 66 = .ok (.iload_n 1, 1) := by decide +kernel
theorem d_p15m25_67 : decode prog_15_method_25_code 67 = .ok (.istore 5, 2) := by decide +kernel
theorem d_p15m25_69 : decode prog_15_method_25_code 69 = .ok (.iload 5, 2) := by decide +kernel
theorem d_p15m25_71 : decode prog_15_method_25_code 71 = .ok (.ifCond .lt 26, 3) := by decide +kernel
theorem d_p15m25_74 : decode prog_15_method_25_code 74 = .ok (.iload 4, 2) := by decide +kernel
theorem d_p15m25_76 : decode prog_15_method_25_code 76 = .ok (.ifCond .eq 21, 3) := by decide +kernel
theorem d_p15m25_79 : decode prog_15_method_25_code 79 = .ok (.aload_n 0, 1) := by decide +kernel
theorem d_p15m25_80 : decode prog_15_method_25_code 80 = .ok (.iload 5, 2) := by decide +kernel
theorem d_p15m25_82 : decode prog_15_method_25_code 82 = .ok (.invokevirtual 161, 3) := by decide +kernel
theorem d_p15m25_85 : decode prog_15_method_25_code 85 = .ok (.aload_n 0, 1) := by decide +kernel
theorem d_p15m25_86 : decode prog_15_method_25_code 86 = .ok (.getfield 25, 3) := by decide +kernel
theorem d_p15m25_89 : decode prog_15_method_25_code 89 = .ok (.iload 5, 2) := by decide +kernel
theorem d_p15m25_91 : decode prog_15_method_25_code 91 = .ok (.iaload, 1) := by decide +kernel
theorem d_p15m25_92 : decode prog_15_method_25_code 92 = .ok (.istore 5, 2) := by decide +kernel
theorem d_p15m25_94 : decode prog_15_method_25_code 94 = .ok (.goto (-25), 3) := by decide +kernel
theorem d_p15m25_97 : decode prog_15_method_25_code 97 = .ok (.iconst 0, 1) := by decide +kernel
theorem d_p15m25_98 : decode prog_15_method_25_code 98 = .ok (.istore 5, 2) := by decide +kernel
theorem d_p15m25_100 : decode prog_15_method_25_code 100 = .ok (.iload 5, 2) := by decide +kernel
theorem d_p15m25_102 : decode prog_15_method_25_code 102 = .ok (.aload_n 0, 1) := by decide +kernel
theorem d_p15m25_103 : decode prog_15_method_25_code 103 = .ok (.getfield 158, 3) := by decide +kernel
theorem d_p15m25_106 : decode prog_15_method_25_code 106 = .ok (.if_icmp .ge 34, 3) := by decide +kernel
theorem d_p15m25_109 : decode prog_15_method_25_code 109 = .ok (.aload_n 0, 1) := by decide +kernel
theorem d_p15m25_110 : decode prog_15_method_25_code 110 = .ok (.aload_n 0, 1) := by decide +kernel
theorem d_p15m25_111 : decode prog_15_method_25_code 111 = .ok (.getfield 93, 3) := by decide +kernel
theorem d_p15m25_114 : decode prog_15_method_25_code 114 = .ok (.iload 5, 2) := by decide +kernel
theorem d_p15m25_116 : decode prog_15_method_25_code 116 = .ok (.iaload, 1) := by decide +kernel
theorem d_p15m25_117 : decode prog_15_method_25_code 117 = .ok (.iload_n 2, 1) := by decide +kernel
theorem d_p15m25_118 : decode prog_15_method_25_code 118 = .ok (.iload_n 3, 1) := by decide +kernel
theorem d_p15m25_119 : decode prog_15_method_25_code 119 = .ok (.iload 4, 2) := by decide +kernel
theorem d_p15m25_121 : decode prog_15_method_25_code 121 = .ok (.invokevirtual 165, 3) := by decide +kernel
theorem d_p15m25_124 : decode prog_15_method_25_code 124 = .ok (.istore 6, 2) := by decide +kernel
theorem d_p15m25_126 : decode prog_15_method_25_code 126 = .ok (.iload 6, 2) := by decide +kernel
theorem d_p15m25_128 : decode prog_15_method_25_code 128 = .ok (.ifCond .lt 6, 3) := by decide +kernel
theorem d_p15m25_131 : decode prog_15_method_25_code 131 = .ok (.iload 6, 2) := by decide +kernel
theorem d_p15m25_133 : decode prog_15_method_25_code 133 = .ok (.ireturn, 1) := by decide +kernel
theorem d_p15m25_134 : decode prog_15_method_25_code 134 = .ok (.iinc 5 1, 3) := by decide +kernel
theorem d_p15m25_137 : decode prog_15_method_25_code 137 = .ok (.goto (-37), 3) := by decide +kernel
theorem d_p15m25_140 : decode prog_15_method_25_code 140 = .ok (.iconst (-1), 1) := by decide +kernel
theorem d_p15m25_141 : decode prog_15_method_25_code 141 = .ok (.ireturn, 1) := by decide +kernel
abbrev y_Mod_foundM : MethodName := ⟨"PolicyDeskModel", "found", "(IIIZ)I"⟩
theorem ok_Mod_foundM : pd_ok y_Mod_foundM prog_15_method_25_code 7 (some .int) 4 := ⟨mT_1400, mT_21, by decide, by decide +kernel⟩
abbrev rm_Mod_foundM : Room := { frames := 2, cells := 0, slots := 0, locals := 51 }
set_option maxHeartbeats 4000000 in
set_option maxRecDepth 100000 in
theorem lp_Mod_foundM_100 (l : Launch) (G : pd_G) (h : pd_H) {y : Nat} {ad : Nat → Nat} {fv : Nat → Nat → Int32} {iv : Nat → Int32} {tl : Int64} {n : Nat} {R : Nat → pd_cr} {cs : List Nat} {k : Nat} {M : Nat → pd_mr} {c9 pe tf nw w9 : Nat} {sA eA : Nat → Nat} (hMO : pd_MO G h y ad fv iv tl) (hC : gm_C fv iv n R) (hL : gm_L fv iv cs) (hM : gm_M fv iv n k M) (hK : gm_K n R) (hc9 : c9 < n) (hiv40 : iv 40 = nI tf) (htf : tf ≤ pe) (hpe : pe ≤ cs.length) (hW : gm_W fv cs nw sA eA) (hw9 : w9 < nw) (hmb : gr_ism (tx_sub cs (sA w9) (eA w9)) = true) {p : Program} {e : Env} {s : State} {m : MethodId} {below : List Frame} {meth : Method} {c : Code} (X : pd_B p s m [.ref y, .int (nI c9), .int (nI pe), .int (nI w9), .int (nI 1)].toArray meth c G y_Mod_foundM.cls prog_15_method_25_code 7 (some .int)) (hmn : meth.name = y_Mod_foundM.name) :
    ∀ (kk9 : Nat) (i : Nat) (od2 : List Nat) (fo1 : Nat → Int32) (fo2 : Nat → Int32) (v43 : Int32) (hh : pd_H), (pd_kx [20, 71, 72] h hh) → (pd_MO G hh y ad (pd_fu (pd_fu fv 41 fo1) 42 fo2) (pd_fu iv 43 v43) tl) → (gm_O (pd_fu (pd_fu fv 41 fo1) 42 fo2) (pd_fu iv 43 v43) od2) → (od2 = gm_all R c9) → (i ≤ 20) → (∀ t, t < i → gr_decl M k (od2.getD t 0) (tx_sub cs tf pe) (tx_sub cs (sA w9) (eA w9)) = none) → 20 - i < kk9 → ∀ (H : Heap) (locs : List Loc), pd_w G s H locs hh → ∀ ls : Array Slot, lv_has ls 7 [(5, .int (nI i)), (0, .ref y), (1, .int (nI c9)), (2, .int (nI pe)), (3, .int (nI w9)), (4, .int (nI 1))] → W p l e rm_Mod_foundM s m [.ref y, .int (nI c9), .int (nI pe), .int (nI w9), .int (nI 1)].toArray below meth c H locs 0 0 (MQ below (pd_Q G pd_vm (fun r h1 => r = (gm_all R c9).findSome? (fun j => gr_decl M k j (tx_sub cs tf pe) (tx_sub cs (sA w9) (eA w9))) ∧ pd_kx [20, 71, 72] h h1 ∧ ∃ fo1 fo2 v43, pd_MO G h1 y ad (pd_fu (pd_fu fv 41 fo1) 42 fo2) (pd_fu iv 43 v43) tl)) [.ref y, .int (nI c9), .int (nI pe), .int (nI w9), .int (nI 1)].toArray s rm_Mod_foundM.cells rm_Mod_foundM.slots (fun q => G.2.1 ≤ q)) (F0 m 100 ls []) := by
  have hx := X.1
  have hb := X.2.1
  have hz_y := hMO.2.1
  have hy0 : h y = some (20, .inr (10, [.ref (ad 0), .ref (ad 1), .ref (ad 2), .int (iv 3), .int (iv 4), .int (iv 5), .ref (ad 6), .ref (ad 7), .ref (ad 8), .ref (ad 9), .ref (ad 10), .ref (ad 11), .int (iv 12), .ref (ad 13), .ref (ad 14), .ref (ad 15), .ref (ad 16), .ref (ad 17), .ref (ad 18), .ref (ad 19), .int (iv 20), .ref (ad 21), .ref (ad 22), .ref (ad 23), .ref (ad 24), .ref (ad 25), .ref (ad 26), .ref (ad 27), .ref (ad 28), .int (iv 29), .ref (ad 30), .ref (ad 31), .int (iv 32), .int (iv 33), .int (iv 34), .int (iv 35), .long tl, .int (iv 37), .int (iv 38), .int (iv 39), .int (iv 40), .ref (ad 41), .ref (ad 42), .int (iv 43)])) := hMO.1
  have ha8 : h (ad 8) = some (38, .inl (.int, 14, .inl (fv 8))) := (hMO.2.2 8 (by decide)).1
  have ha41 : h (ad 41) = some (71, .inl (.int, 16, .inl (fv 41))) := (hMO.2.2 41 (by decide)).1
  have ha42 : h (ad 42) = some (72, .inl (.int, 32, .inl (fv 42))) := (hMO.2.2 42 (by decide)).1
  obtain ⟨hiv12, hn2, hn14, hCc⟩ := id hC
  obtain ⟨hiv3, hln, hl60, hlc⟩ := id hL
  have hk24 := hM.2.1
  intro kk9
  induction kk9 with
  | zero => intros; omega
  | succ kk9 ih =>
    intro i od2 fo1 fo2 v43 hh hk2 hMO2 hO9 hall hi hj hmu H locs w ls hl
    have hz_y := hMO2.2.1
    have hy2 : hh y = some (20, .inr (10, [.ref (ad 0), .ref (ad 1), .ref (ad 2), .int (iv 3), .int (iv 4), .int (iv 5), .ref (ad 6), .ref (ad 7), .ref (ad 8), .ref (ad 9), .ref (ad 10), .ref (ad 11), .int (iv 12), .ref (ad 13), .ref (ad 14), .ref (ad 15), .ref (ad 16), .ref (ad 17), .ref (ad 18), .ref (ad 19), .int (iv 20), .ref (ad 21), .ref (ad 22), .ref (ad 23), .ref (ad 24), .ref (ad 25), .ref (ad 26), .ref (ad 27), .ref (ad 28), .int (iv 29), .ref (ad 30), .ref (ad 31), .int (iv 32), .int (iv 33), .int (iv 34), .int (iv 35), .long tl, .int (iv 37), .int (iv 38), .int (iv 39), .int (iv 40), .ref (ad 41), .ref (ad 42), .int v43])) := hMO2.1
    have ha8 : hh (ad 8) = some (38, .inl (.int, 14, .inl (fv 8))) := (hMO2.2.2 8 (by decide)).1
    have ha41 : hh (ad 41) = some (71, .inl (.int, 16, .inl (fo1))) := (hMO2.2.2 41 (by decide)).1
    have ha42 : hh (ad 42) = some (72, .inl (.int, 32, .inl (fo2))) := (hMO2.2.2 42 (by decide)).1
    refine lv_iload hx hb d_p15m25_100 (lv_at hl 0 rfl) ?_
    refine lv_aload_n hx hb d_p15m25_102 rfl (lv_at hl 1 rfl) ?_
    refine pd_get X w hy2 rfl 43 (by decide) mT_1182 rfl rfl d_p15m25_103 ?_
    refine pd_top (v' := .int (nI od2.length)) (congrArg Value.int hO9.1) ?_
    have hol14 := hO9.2.1
    refine pd_jge (tgt := 140) hx hb d_p15m25_106 (by decide) (by omega) (by omega) (fun q1 => ?_) (fun q1 => ?_)
    · -- taken: 140
      refine lv_iconst (v := -1) hx hb d_p15m25_140 (by decide) ?_
      refine W.eq (g2 := F0 m 141 ls [.int (pd_m none)]) rfl ?_
      exact pd_mret (v := none) X w ⟨by rw [← hall]; exact (gm_fs_n (g := (fun j => gr_decl M k j (tx_sub cs tf pe) (tx_sub cs (sA w9) (eA w9)))) (fun t ht => hj t (by omega))).symm, hk2, fo1, fo2, v43, hMO2⟩ (by decide) (by decide) d_p15m25_141
    · -- not taken: 109
      refine lv_aload_n hx hb d_p15m25_109 rfl (lv_at hl 1 rfl) ?_
      refine lv_aload_n hx hb d_p15m25_110 rfl (lv_at hl 1 rfl) ?_
      refine pd_get X w hy2 rfl 41 (by decide) mT_1180 rfl rfl d_p15m25_111 ?_
      refine lv_iload hx hb d_p15m25_114 (lv_at hl 0 rfl) ?_
      refine pd_iald X w ha41 (by omega) (by omega) d_p15m25_116 ?_
      refine pd_top (v' := .int (nI (od2.getD i 0))) (congrArg Value.int (hO9.2.2 i (by omega)).1) ?_
      have hol := (hO9.2.2 i (by omega)).2
      refine lv_iload_n hx hb d_p15m25_117 rfl (lv_at hl 3 rfl) ?_
      refine lv_iload_n hx hb d_p15m25_118 rfl (lv_at hl 4 rfl) ?_
      refine lv_iload hx hb d_p15m25_119 (lv_at hl 5 rfl) ?_
      refine pd_cV (a := y) (As := [.int (nI (od2.getD i 0)), .int (nI pe), .int (nI w9), .int (nI 1)]) (rest := []) X w hy2 rfl (c_Mod_ownW l G hh (cs := cs) (n := n) (k := k) (M := M) (c9 := od2.getD i 0) (pe := pe) (tf := tf) (mb := true) (nw := nw) (w9 := w9) (sA := sA) (eA := eA) (ad := ad) (fv := pd_fu (pd_fu fv 41 fo1) 42 fo2) (iv := pd_fu iv 43 v43) (tl := tl) hMO2 hL hM (by omega) (by omega) hiv40 (by omega) (by omega) hW (by omega) hmb) ok_Mod_ownW ⟨mT_1360, sT_29⟩ mT_1358 ⟨by decide, by decide⟩ rfl hl.1 rfl (Nat.le_of_ble_eq_true rfl) d_p15m25_121 ⟨by decide, by decide⟩ (fun r2 h3 H locs hp4 w => ?_)
      refine W.widen (k := 0) (n := 0) (by decide) (by decide) ?_
      obtain ⟨e5, rfl⟩ := hp4
      refine lv_istore (lv' := [(6, .int (pd_m r2)), (5, .int (nI i)), (0, .ref y), (1, .int (nI c9)), (2, .int (nI pe)), (3, .int (nI w9)), (4, .int (nI 1))]) hx hb d_p15m25_124 hl (by decide) rfl (fun ls hl => ?_)
      refine lv_iload hx hb d_p15m25_126 (lv_at hl 0 rfl) ?_
      refine pd_mlt (tgt := 134) hx hb d_p15m25_128 (by decide) (fun x hx => by have z := gr_fi_lt (e5.symm.trans hx); omega) (fun q6 => ?_) (fun j7 q6 => ?_)
      · -- none: 134
        rw [q6] at e5
        rw [q6] at hl
        have hl : lv_has ls 7 [(6, .int (-1)), (5, .int (nI i)), (0, .ref y), (1, .int (nI c9)), (2, .int (nI pe)), (3, .int (nI w9)), (4, .int (nI 1))] := hl
        refine pd_iinc (k := 1) (d := 1) (lv' := [(5, .int (nI (i + 1))), (6, .int (-1)), (0, .ref y), (1, .int (nI c9)), (2, .int (nI pe)), (3, .int (nI w9)), (4, .int (nI 1))]) hx hb d_p15m25_134 (by decide) hl rfl (by decide) rfl (fun ls hl => ?_)
        refine lv_goto (tgt := 100) hx hb d_p15m25_137 (by decide) ?_
        exact ih (i + 1) od2 fo1 fo2 v43 hh (hk2) (hMO2) (hO9) (hall) (by omega) (fun t ht => by by_cases e9 : t = i; subst e9; exact e5.symm; exact hj t (by omega)) (by omega) _ _ w ls (lv_sub hl [0, 2, 3, 4, 5, 6] rfl)
      · -- some: 131
        rw [q6] at e5
        rw [q6] at hl
        have hl : lv_has ls 7 [(6, .int (nI j7)), (5, .int (nI i)), (0, .ref y), (1, .int (nI c9)), (2, .int (nI pe)), (3, .int (nI w9)), (4, .int (nI 1))] := hl
        have j7lt := gr_fi_lt e5.symm
        refine lv_iload hx hb d_p15m25_131 (lv_at hl 0 rfl) ?_
        refine W.eq (g2 := F0 m 133 ls [.int (pd_m (some j7))]) rfl ?_
        exact pd_mret (v := (some j7)) X w ⟨by rw [← hall]; exact (gm_fs_y (g := (fun j => gr_decl M k j (tx_sub cs tf pe) (tx_sub cs (sA w9) (eA w9)))) (i := i) (by omega) hj e5.symm).symm, hk2, fo1, fo2, v43, hMO2⟩ (by decide) (by decide) d_p15m25_133
set_option maxHeartbeats 4000000 in
set_option maxRecDepth 100000 in
theorem lp_Mod_foundM_69 (l : Launch) (G : pd_G) (h : pd_H) {y : Nat} {ad : Nat → Nat} {fv : Nat → Nat → Int32} {iv : Nat → Int32} {tl : Int64} {n : Nat} {R : Nat → pd_cr} {cs : List Nat} {k : Nat} {M : Nat → pd_mr} {c9 pe tf nw w9 : Nat} {sA eA : Nat → Nat} (hMO : pd_MO G h y ad fv iv tl) (hC : gm_C fv iv n R) (hL : gm_L fv iv cs) (hM : gm_M fv iv n k M) (hK : gm_K n R) (hc9 : c9 < n) (hiv40 : iv 40 = nI tf) (htf : tf ≤ pe) (hpe : pe ≤ cs.length) (hW : gm_W fv cs nw sA eA) (hw9 : w9 < nw) (hmb : gr_ism (tx_sub cs (sA w9) (eA w9)) = true) {p : Program} {e : Env} {s : State} {m : MethodId} {below : List Frame} {meth : Method} {c : Code} (X : pd_B p s m [.ref y, .int (nI c9), .int (nI pe), .int (nI w9), .int (nI 1)].toArray meth c G y_Mod_foundM.cls prog_15_method_25_code 7 (some .int)) (hmn : meth.name = y_Mod_foundM.name) :
    ∀ (kk9 : Nat) (o9 : Option Nat) (fe : Nat) (od2 : List Nat) (fo1 : Nat → Int32) (fo2 : Nat → Int32) (v43 : Int32) (hh : pd_H), (pd_kx [20, 71, 72] h hh) → (pd_MO G hh y ad (pd_fu (pd_fu fv 41 fo1) 42 fo2) (pd_fu iv 43 v43) tl) → (∀ t, o9 = some t → t < n) → (∀ t, o9 = some t → t < fe) → (gm_O (pd_fu (pd_fu fv 41 fo1) 42 fo2) (pd_fu iv 43 v43) od2) → (od2.Nodup) → (∀ z ∈ od2, z < n) → (gm_cl R o9 od2) → ((gm_ch R fe o9).foldl (gm_F R) od2 = gm_all R c9) → fe < kk9 → ∀ (H : Heap) (locs : List Loc), pd_w G s H locs hh → ∀ ls : Array Slot, lv_has ls 7 [(5, .int (pd_m o9)), (0, .ref y), (1, .int (nI c9)), (2, .int (nI pe)), (3, .int (nI w9)), (4, .int (nI 1))] → W p l e rm_Mod_foundM s m [.ref y, .int (nI c9), .int (nI pe), .int (nI w9), .int (nI 1)].toArray below meth c H locs 0 0 (MQ below (pd_Q G pd_vm (fun r h1 => r = (gm_all R c9).findSome? (fun j => gr_decl M k j (tx_sub cs tf pe) (tx_sub cs (sA w9) (eA w9))) ∧ pd_kx [20, 71, 72] h h1 ∧ ∃ fo1 fo2 v43, pd_MO G h1 y ad (pd_fu (pd_fu fv 41 fo1) 42 fo2) (pd_fu iv 43 v43) tl)) [.ref y, .int (nI c9), .int (nI pe), .int (nI w9), .int (nI 1)].toArray s rm_Mod_foundM.cells rm_Mod_foundM.slots (fun q => G.2.1 ≤ q)) (F0 m 69 ls []) := by
  have hx := X.1
  have hb := X.2.1
  have hz_y := hMO.2.1
  have hy0 : h y = some (20, .inr (10, [.ref (ad 0), .ref (ad 1), .ref (ad 2), .int (iv 3), .int (iv 4), .int (iv 5), .ref (ad 6), .ref (ad 7), .ref (ad 8), .ref (ad 9), .ref (ad 10), .ref (ad 11), .int (iv 12), .ref (ad 13), .ref (ad 14), .ref (ad 15), .ref (ad 16), .ref (ad 17), .ref (ad 18), .ref (ad 19), .int (iv 20), .ref (ad 21), .ref (ad 22), .ref (ad 23), .ref (ad 24), .ref (ad 25), .ref (ad 26), .ref (ad 27), .ref (ad 28), .int (iv 29), .ref (ad 30), .ref (ad 31), .int (iv 32), .int (iv 33), .int (iv 34), .int (iv 35), .long tl, .int (iv 37), .int (iv 38), .int (iv 39), .int (iv 40), .ref (ad 41), .ref (ad 42), .int (iv 43)])) := hMO.1
  have ha8 : h (ad 8) = some (38, .inl (.int, 14, .inl (fv 8))) := (hMO.2.2 8 (by decide)).1
  have ha41 : h (ad 41) = some (71, .inl (.int, 16, .inl (fv 41))) := (hMO.2.2 41 (by decide)).1
  have ha42 : h (ad 42) = some (72, .inl (.int, 32, .inl (fv 42))) := (hMO.2.2 42 (by decide)).1
  obtain ⟨hiv12, hn2, hn14, hCc⟩ := id hC
  obtain ⟨hiv3, hln, hl60, hlc⟩ := id hL
  have hk24 := hM.2.1
  intro kk9
  induction kk9 with
  | zero => intros; omega
  | succ kk9 ih =>
    intro o9 fe od2 fo1 fo2 v43 hh hk2 hMO2 ho9 hfe hO9 hnd9 hlt9 hcl hv hmu H locs w ls hl
    have hz_y := hMO2.2.1
    have hy2 : hh y = some (20, .inr (10, [.ref (ad 0), .ref (ad 1), .ref (ad 2), .int (iv 3), .int (iv 4), .int (iv 5), .ref (ad 6), .ref (ad 7), .ref (ad 8), .ref (ad 9), .ref (ad 10), .ref (ad 11), .int (iv 12), .ref (ad 13), .ref (ad 14), .ref (ad 15), .ref (ad 16), .ref (ad 17), .ref (ad 18), .ref (ad 19), .int (iv 20), .ref (ad 21), .ref (ad 22), .ref (ad 23), .ref (ad 24), .ref (ad 25), .ref (ad 26), .ref (ad 27), .ref (ad 28), .int (iv 29), .ref (ad 30), .ref (ad 31), .int (iv 32), .int (iv 33), .int (iv 34), .int (iv 35), .long tl, .int (iv 37), .int (iv 38), .int (iv 39), .int (iv 40), .ref (ad 41), .ref (ad 42), .int v43])) := hMO2.1
    have ha8 : hh (ad 8) = some (38, .inl (.int, 14, .inl (fv 8))) := (hMO2.2.2 8 (by decide)).1
    have ha41 : hh (ad 41) = some (71, .inl (.int, 16, .inl (fo1))) := (hMO2.2.2 41 (by decide)).1
    have ha42 : hh (ad 42) = some (72, .inl (.int, 32, .inl (fo2))) := (hMO2.2.2 42 (by decide)).1
    have hil : ∀ x, o9 = some x → x < 2 ^ 31 := fun x hx => by have := ho9 x hx; omega
    refine lv_iload hx hb d_p15m25_69 (lv_at hl 0 rfl) ?_
    refine pd_mlt (tgt := 97) hx hb d_p15m25_71 (by decide) hil (fun q1 => ?_) (fun j2 q1 => ?_)
    · -- none: 97
      rw [q1] at hl
      have hl : lv_has ls 7 [(5, .int (-1)), (0, .ref y), (1, .int (nI c9)), (2, .int (nI pe)), (3, .int (nI w9)), (4, .int (nI 1))] := hl
      have hall : od2 = gm_all R c9 := by rw [← hv, q1, gm_ch_0]; rfl
      refine lv_iconst (v := nI 0) hx hb d_p15m25_97 (by decide) ?_
      refine lv_istore (lv' := [(5, .int (nI 0)), (0, .ref y), (1, .int (nI c9)), (2, .int (nI pe)), (3, .int (nI w9)), (4, .int (nI 1))]) hx hb d_p15m25_98 hl (by decide) rfl (fun ls hl => ?_)
      exact lp_Mod_foundM_100 l G h hMO hC hL hM hK hc9 hiv40 htf hpe hW hw9 hmb X hmn (20 + 1) 0 od2 fo1 fo2 v43 hh (hk2) (hMO2) (hO9) (hall) (by omega) (fun t ht => absurd ht (Nat.not_lt_zero t)) (by omega) _ _ w ls (lv_sub hl [0, 1, 2, 3, 4, 5] rfl)
    · -- some: 74
      rw [q1] at hl
      have hl : lv_has ls 7 [(5, .int (nI j2)), (0, .ref y), (1, .int (nI c9)), (2, .int (nI pe)), (3, .int (nI w9)), (4, .int (nI 1))] := hl
      have hxn := ho9 j2 q1
      have hxf := hfe j2 q1
      have hKx := hK j2 (by omega)
      refine lv_iload hx hb d_p15m25_74 (lv_at hl 5 rfl) ?_
      refine pd_zeq (tgt := 97) hx hb d_p15m25_76 (by decide) (by decide) (fun q => absurd q (by decide)) (fun _ => ?_)
      refine lv_aload_n hx hb d_p15m25_79 rfl (lv_at hl 1 rfl) ?_
      refine lv_iload hx hb d_p15m25_80 (lv_at hl 0 rfl) ?_
      refine pd_cVv (a := y) (As := [.int (nI j2)]) (rest := []) X w hy2 rfl (c_Mod_facesFrom l G hh (od := od2) (ad := ad) (fv := pd_fu (pd_fu fv 41 fo1) 42 fo2) (iv := pd_fu iv 43 v43) (tl := tl) hMO2 (by assumption) (by assumption) hO9 (by omega) (gm_cl.J hK hxn (q1 ▸ hcl)) hnd9 hlt9) ok_Mod_facesFrom ⟨mT_1407, sT_39⟩ mT_1405 ⟨by decide, by decide⟩ rfl hl.1 rfl (Nat.le_of_ble_eq_true rfl) d_p15m25_82 ⟨by decide, by decide⟩ (fun h5 H locs hp6 w => ?_)
      refine W.widen (k := 0) (n := 0) (by decide) (by decide) ?_
      obtain ⟨k7, f8, f9, v10, f11, f12⟩ := hp6
      have f13 := k7 _ _ ha8 (show (38 : Nat) ∉ [20, 71, 72] by decide)
      have mo15 : pd_MO G h5 y ad (pd_fu (pd_fu fv 41 f8) 42 f9) (pd_fu iv 43 v10) tl := pd_MO.ext f11 (fun j9 hj9 => by by_cases e941 : j9 = 41; subst e941; rfl; by_cases e942 : j9 = 42; subst e942; rfl; simp only [pd_fu, if_neg e941, if_neg e942]) rfl
      have hy16 : h5 y = some (20, .inr (10, [.ref (ad 0), .ref (ad 1), .ref (ad 2), .int (iv 3), .int (iv 4), .int (iv 5), .ref (ad 6), .ref (ad 7), .ref (ad 8), .ref (ad 9), .ref (ad 10), .ref (ad 11), .int (iv 12), .ref (ad 13), .ref (ad 14), .ref (ad 15), .ref (ad 16), .ref (ad 17), .ref (ad 18), .ref (ad 19), .int (iv 20), .ref (ad 21), .ref (ad 22), .ref (ad 23), .ref (ad 24), .ref (ad 25), .ref (ad 26), .ref (ad 27), .ref (ad 28), .int (iv 29), .ref (ad 30), .ref (ad 31), .int (iv 32), .int (iv 33), .int (iv 34), .int (iv 35), .long tl, .int (iv 37), .int (iv 38), .int (iv 39), .int (iv 40), .ref (ad 41), .ref (ad 42), .int v10])) := mo15.1
      have ha17 : h5 (ad 8) = some (38, .inl (.int, 14, .inl (fv 8))) := (mo15.2.2 8 (by decide)).1
      have ha18 : h5 (ad 41) = some (71, .inl (.int, 16, .inl (f8))) := (mo15.2.2 41 (by decide)).1
      have ha19 : h5 (ad 42) = some (72, .inl (.int, 32, .inl (f9))) := (mo15.2.2 42 (by decide)).1
      have f14 : gm_O (pd_fu (pd_fu fv 41 f8) 42 f9) (pd_fu iv 43 v10) (gm_F R (od2) j2) := f12
      refine lv_aload_n hx hb d_p15m25_85 rfl (lv_at hl 1 rfl) ?_
      refine pd_get X w hy16 rfl 8 (by decide) mT_1147 rfl rfl d_p15m25_86 ?_
      refine lv_iload hx hb d_p15m25_89 (lv_at hl 0 rfl) ?_
      refine pd_iald X w ha17 (by omega) (by omega) d_p15m25_91 ?_
      refine pd_top (v' := .int (pd_m ((R j2).2.2.1))) (congrArg Value.int (hCc j2 (by omega)).2.2.2.2.1) ?_
      refine lv_istore (lv' := [(5, .int (pd_m ((R j2).2.2.1))), (0, .ref y), (1, .int (nI c9)), (2, .int (nI pe)), (3, .int (nI w9)), (4, .int (nI 1))]) hx hb d_p15m25_92 hl (by decide) rfl (fun ls hl => ?_)
      refine lv_goto (tgt := 69) hx hb d_p15m25_94 (by decide) ?_
      exact ih ((R j2).2.2.1) (fe - 1) (gm_F R od2 j2) f8 f9 v10 h5 (hk2.tr (k7)) (mo15) (fun t ht => Nat.lt_trans (hKx.2.2.1 t ht).1 hxn) (fun t ht => by have := (hKx.2.2.1 t ht).1; omega) (f14) (al_fold_nd _ _ hnd9) (al_fold_lt _ _ hlt9 (gm_F_lt hK j2 hxn)) (gm_cl.next hK hxn (q1 ▸ hcl)) (by rw [← hv, q1, gm_ch_s hxf]; rfl) (by omega) _ _ w ls (lv_sub hl [0, 1, 2, 3, 4, 5] rfl)
set_option maxHeartbeats 4000000 in
set_option maxRecDepth 100000 in
theorem lp_Mod_foundM_8 (l : Launch) (G : pd_G) (h : pd_H) {y : Nat} {ad : Nat → Nat} {fv : Nat → Nat → Int32} {iv : Nat → Int32} {tl : Int64} {n : Nat} {R : Nat → pd_cr} {cs : List Nat} {k : Nat} {M : Nat → pd_mr} {c9 pe tf nw w9 : Nat} {sA eA : Nat → Nat} (hMO : pd_MO G h y ad fv iv tl) (hC : gm_C fv iv n R) (hL : gm_L fv iv cs) (hM : gm_M fv iv n k M) (hK : gm_K n R) (hc9 : c9 < n) (hiv40 : iv 40 = nI tf) (htf : tf ≤ pe) (hpe : pe ≤ cs.length) (hW : gm_W fv cs nw sA eA) (hw9 : w9 < nw) (hmb : gr_ism (tx_sub cs (sA w9) (eA w9)) = true) {p : Program} {e : Env} {s : State} {m : MethodId} {below : List Frame} {meth : Method} {c : Code} (X : pd_B p s m [.ref y, .int (nI c9), .int (nI pe), .int (nI w9), .int (nI 1)].toArray meth c G y_Mod_foundM.cls prog_15_method_25_code 7 (some .int)) (hmn : meth.name = y_Mod_foundM.name) :
    ∀ (kk9 : Nat) (o9 : Option Nat) (fe : Nat) (od2 : List Nat) (fo1 : Nat → Int32) (fo2 : Nat → Int32) (v43 : Int32) (hh : pd_H), (pd_kx [20, 71, 72] h hh) → (pd_MO G hh y ad (pd_fu (pd_fu fv 41 fo1) 42 fo2) (pd_fu iv 43 v43) tl) → (∀ t, o9 = some t → t < n) → (∀ t, o9 = some t → t < fe) → (gm_O (pd_fu (pd_fu fv 41 fo1) 42 fo2) (pd_fu iv 43 v43) od2) → (od2.Nodup) → (∀ z ∈ od2, z < n) → ((gm_ch R fe o9).foldl al_add od2 = (gm_ch R 14 (some c9)).foldl al_add []) → fe < kk9 → ∀ (H : Heap) (locs : List Loc), pd_w G s H locs hh → ∀ ls : Array Slot, lv_has ls 7 [(5, .int (pd_m o9)), (0, .ref y), (1, .int (nI c9)), (2, .int (nI pe)), (3, .int (nI w9)), (4, .int (nI 1))] → W p l e rm_Mod_foundM s m [.ref y, .int (nI c9), .int (nI pe), .int (nI w9), .int (nI 1)].toArray below meth c H locs 0 0 (MQ below (pd_Q G pd_vm (fun r h1 => r = (gm_all R c9).findSome? (fun j => gr_decl M k j (tx_sub cs tf pe) (tx_sub cs (sA w9) (eA w9))) ∧ pd_kx [20, 71, 72] h h1 ∧ ∃ fo1 fo2 v43, pd_MO G h1 y ad (pd_fu (pd_fu fv 41 fo1) 42 fo2) (pd_fu iv 43 v43) tl)) [.ref y, .int (nI c9), .int (nI pe), .int (nI w9), .int (nI 1)].toArray s rm_Mod_foundM.cells rm_Mod_foundM.slots (fun q => G.2.1 ≤ q)) (F0 m 8 ls []) := by
  have hx := X.1
  have hb := X.2.1
  have hz_y := hMO.2.1
  have hy0 : h y = some (20, .inr (10, [.ref (ad 0), .ref (ad 1), .ref (ad 2), .int (iv 3), .int (iv 4), .int (iv 5), .ref (ad 6), .ref (ad 7), .ref (ad 8), .ref (ad 9), .ref (ad 10), .ref (ad 11), .int (iv 12), .ref (ad 13), .ref (ad 14), .ref (ad 15), .ref (ad 16), .ref (ad 17), .ref (ad 18), .ref (ad 19), .int (iv 20), .ref (ad 21), .ref (ad 22), .ref (ad 23), .ref (ad 24), .ref (ad 25), .ref (ad 26), .ref (ad 27), .ref (ad 28), .int (iv 29), .ref (ad 30), .ref (ad 31), .int (iv 32), .int (iv 33), .int (iv 34), .int (iv 35), .long tl, .int (iv 37), .int (iv 38), .int (iv 39), .int (iv 40), .ref (ad 41), .ref (ad 42), .int (iv 43)])) := hMO.1
  have ha8 : h (ad 8) = some (38, .inl (.int, 14, .inl (fv 8))) := (hMO.2.2 8 (by decide)).1
  have ha41 : h (ad 41) = some (71, .inl (.int, 16, .inl (fv 41))) := (hMO.2.2 41 (by decide)).1
  have ha42 : h (ad 42) = some (72, .inl (.int, 32, .inl (fv 42))) := (hMO.2.2 42 (by decide)).1
  obtain ⟨hiv12, hn2, hn14, hCc⟩ := id hC
  obtain ⟨hiv3, hln, hl60, hlc⟩ := id hL
  have hk24 := hM.2.1
  intro kk9
  induction kk9 with
  | zero => intros; omega
  | succ kk9 ih =>
    intro o9 fe od2 fo1 fo2 v43 hh hk2 hMO2 ho9 hfe hO9 hnd9 hlt9 hv hmu H locs w ls hl
    have hz_y := hMO2.2.1
    have hy2 : hh y = some (20, .inr (10, [.ref (ad 0), .ref (ad 1), .ref (ad 2), .int (iv 3), .int (iv 4), .int (iv 5), .ref (ad 6), .ref (ad 7), .ref (ad 8), .ref (ad 9), .ref (ad 10), .ref (ad 11), .int (iv 12), .ref (ad 13), .ref (ad 14), .ref (ad 15), .ref (ad 16), .ref (ad 17), .ref (ad 18), .ref (ad 19), .int (iv 20), .ref (ad 21), .ref (ad 22), .ref (ad 23), .ref (ad 24), .ref (ad 25), .ref (ad 26), .ref (ad 27), .ref (ad 28), .int (iv 29), .ref (ad 30), .ref (ad 31), .int (iv 32), .int (iv 33), .int (iv 34), .int (iv 35), .long tl, .int (iv 37), .int (iv 38), .int (iv 39), .int (iv 40), .ref (ad 41), .ref (ad 42), .int v43])) := hMO2.1
    have ha8 : hh (ad 8) = some (38, .inl (.int, 14, .inl (fv 8))) := (hMO2.2.2 8 (by decide)).1
    have ha41 : hh (ad 41) = some (71, .inl (.int, 16, .inl (fo1))) := (hMO2.2.2 41 (by decide)).1
    have ha42 : hh (ad 42) = some (72, .inl (.int, 32, .inl (fo2))) := (hMO2.2.2 42 (by decide)).1
    have hil : ∀ x, o9 = some x → x < 2 ^ 31 := fun x hx => by have := ho9 x hx; omega
    refine lv_iload hx hb d_p15m25_8 (lv_at hl 0 rfl) ?_
    refine pd_mlt (tgt := 66) hx hb d_p15m25_10 (by decide) hil (fun q1 => ?_) (fun j2 q1 => ?_)
    · -- none: 66
      rw [q1] at hl
      have hl : lv_has ls 7 [(5, .int (-1)), (0, .ref y), (1, .int (nI c9)), (2, .int (nI pe)), (3, .int (nI w9)), (4, .int (nI 1))] := hl
      have hod : od2 = (gm_ch R 14 (some c9)).foldl al_add [] := by rw [← hv, q1, gm_ch_0]; rfl
      refine lv_iload_n hx hb d_p15m25_66 rfl (lv_at hl 2 rfl) ?_
      refine lv_istore (lv' := [(5, .int (nI c9)), (0, .ref y), (1, .int (nI c9)), (2, .int (nI pe)), (3, .int (nI w9)), (4, .int (nI 1))]) hx hb d_p15m25_67 hl (by decide) rfl (fun ls hl => ?_)
      exact lp_Mod_foundM_69 l G h hMO hC hL hM hK hc9 hiv40 htf hpe hW hw9 hmb X hmn (14 + 1) (some c9) 14 od2 fo1 fo2 v43 hh (hk2) (hMO2) (fun t ht => by cases ht; exact hc9) (fun t ht => by cases ht; omega) (hO9) (hnd9) (hlt9) (by rw [hod]; intro z hz hi; rcases (al_fold_mem _ _).mp hz with y9 | y9; cases y9; exact Or.inl (by rw [gm_ch_pl hK 14 c9 hc9 z y9 hi])) (by rw [hod]; rfl) (by omega) _ _ w ls (lv_sub hl [0, 1, 2, 3, 4, 5] rfl)
    · -- some: 13
      rw [q1] at hl
      have hl : lv_has ls 7 [(5, .int (nI j2)), (0, .ref y), (1, .int (nI c9)), (2, .int (nI pe)), (3, .int (nI w9)), (4, .int (nI 1))] := hl
      have hxn := ho9 j2 q1
      have hxf := hfe j2 q1
      have hKx := hK j2 (by omega)
      refine lv_aload_n hx hb d_p15m25_13 rfl (lv_at hl 1 rfl) ?_
      refine lv_iload hx hb d_p15m25_14 (lv_at hl 0 rfl) ?_
      refine pd_cV (a := y) (As := [.int (nI j2)]) (rest := []) X w hy2 rfl (c_Mod_isOrdered l G hh (od := od2) (ad := ad) (fv := pd_fu (pd_fu fv 41 fo1) 42 fo2) (iv := pd_fu iv 43 v43) (tl := tl) hMO2 hO9 (by omega)) ok_Mod_isOrdered ⟨mT_1403, sT_38⟩ mT_1401 ⟨by decide, by decide⟩ rfl hl.1 rfl (Nat.le_of_ble_eq_true rfl) d_p15m25_16 ⟨by decide, by decide⟩ (fun r3 h4 H locs hp5 w => ?_)
      refine W.widen (k := 0) (n := 0) (by decide) (by decide) ?_
      obtain ⟨e6, rfl⟩ := hp5
      refine pd_bne (tgt := 43) hx hb d_p15m25_19 (by decide) (fun q7 => ?_) (fun q7 => ?_)
      · -- taken: 43
        have hin9 : j2 ∈ od2 := of_decide_eq_true (e6.symm.trans q7)
        have hal := al_in hin9
        refine lv_iload hx hb d_p15m25_43 (lv_at hl 5 rfl) ?_
        refine pd_zne (tgt := 54) hx hb d_p15m25_45 (by decide) (by decide) (fun _ => ?_) (fun q => absurd q (by decide))
        refine lv_aload_n hx hb d_p15m25_54 rfl (lv_at hl 1 rfl) ?_
        refine pd_get X w hy2 rfl 8 (by decide) mT_1147 rfl rfl d_p15m25_55 ?_
        refine lv_iload hx hb d_p15m25_58 (lv_at hl 0 rfl) ?_
        refine pd_iald X w ha8 (by omega) (by omega) d_p15m25_60 ?_
        refine pd_top (v' := .int (pd_m ((R j2).2.2.1))) (congrArg Value.int (hCc j2 (by omega)).2.2.2.2.1) ?_
        refine lv_istore (lv' := [(5, .int (pd_m ((R j2).2.2.1))), (0, .ref y), (1, .int (nI c9)), (2, .int (nI pe)), (3, .int (nI w9)), (4, .int (nI 1))]) hx hb d_p15m25_61 hl (by decide) rfl (fun ls hl => ?_)
        refine lv_goto (tgt := 8) hx hb d_p15m25_63 (by decide) ?_
        exact ih ((R j2).2.2.1) (fe - 1) (al_add od2 j2) fo1 fo2 v43 hh (hk2.tr (pd_kx.rf)) (hMO2) (fun t ht => Nat.lt_trans (hKx.2.2.1 t ht).1 hxn) (fun t ht => by have := (hKx.2.2.1 t ht).1; omega) (by rw [hal]; exact hO9) (al_nd hnd9) (al_lt hlt9 hxn) (by rw [← hv, q1, gm_ch_s hxf]; rfl) (by omega) _ _ w ls (lv_sub hl [0, 1, 2, 3, 4, 5] rfl)
      · -- not taken: 22
        have hnin : j2 ∉ od2 := of_decide_eq_false (e6.symm.trans q7)
        have hod13 := gm_J_len hnd9 hlt9 hxn hnin hn14
        have hOl := hO9.1
        refine lv_aload_n hx hb d_p15m25_22 rfl (lv_at hl 1 rfl) ?_
        refine pd_get X w hy2 rfl 41 (by decide) mT_1180 rfl rfl d_p15m25_23 ?_
        refine lv_aload_n hx hb d_p15m25_26 rfl (lv_at hl 1 rfl) ?_
        refine pd_get X w hy2 rfl 43 (by decide) mT_1182 rfl rfl d_p15m25_27 ?_
        refine pd_top (v' := .int (nI od2.length)) (congrArg Value.int hO9.1) ?_
        refine lv_iload hx hb d_p15m25_30 (lv_at hl 0 rfl) ?_
        refine pd_iast X w ha41 (hMO.2.2 41 (by decide)).2 (by omega) (by omega) d_p15m25_32 (fun H locs w => ?_)
        have w : pd_w G s H locs (pd_up hh (ad 41) (71, .inl (.int, 16, .inl (upd fo1 od2.length (nI j2))))) := w
        obtain ⟨h9, u12⟩ : ∃ z, z = pd_up hh (ad 41) (71, .inl (.int, 16, .inl (upd fo1 od2.length (nI j2)))) := ⟨_, rfl⟩
        rw [← u12] at w
        have k10 : pd_kq (ad 41) hh h9 := by rw [u12]; exact pd_up_kq
        have f11 : h9 (ad 41) = some (71, .inl (.int, 16, .inl (upd fo1 od2.length (nI j2)))) := by rw [u12]; exact pd_up_s _ _ _
        have f13 := k10 _ _ (pd_ne hy2 ha41 (by simp)) hy2
        have f14 := k10 _ _ (pd_ne ha8 ha41 (by simp)) ha8
        have f15 := k10 _ _ (pd_ne ha42 ha41 (by simp)) ha42
        refine lv_aload_n hx hb d_p15m25_33 rfl (lv_at hl 1 rfl) ?_
        refine lv_dup hx hb d_p15m25_34 rfl ?_
        refine pd_get X w f13 rfl 43 (by decide) mT_1182 rfl rfl d_p15m25_35 ?_
        refine pd_top (v' := .int (nI od2.length)) (congrArg Value.int hO9.1) ?_
        refine lv_iconst (v := nI 1) hx hb d_p15m25_38 (by decide) ?_
        refine pd_iadd hx hb d_p15m25_39 ?_
        refine pd_put (ty := .int) X w f13 hz_y rfl 43 (by decide) mT_1182 rfl rfl (by decide +kernel) rfl rfl (Nat.le_of_ble_eq_true rfl) d_p15m25_40 (fun H locs w => ?_)
        have w : pd_w G s H locs (pd_up h9 y (20, .inr (10, [.ref (ad 0), .ref (ad 1), .ref (ad 2), .int (iv 3), .int (iv 4), .int (iv 5), .ref (ad 6), .ref (ad 7), .ref (ad 8), .ref (ad 9), .ref (ad 10), .ref (ad 11), .int (iv 12), .ref (ad 13), .ref (ad 14), .ref (ad 15), .ref (ad 16), .ref (ad 17), .ref (ad 18), .ref (ad 19), .int (iv 20), .ref (ad 21), .ref (ad 22), .ref (ad 23), .ref (ad 24), .ref (ad 25), .ref (ad 26), .ref (ad 27), .ref (ad 28), .int (iv 29), .ref (ad 30), .ref (ad 31), .int (iv 32), .int (iv 33), .int (iv 34), .int (iv 35), .long tl, .int (iv 37), .int (iv 38), .int (iv 39), .int (iv 40), .ref (ad 41), .ref (ad 42), .int (nI (od2.length + 1))]))) := w
        obtain ⟨h16, u19⟩ : ∃ z, z = pd_up h9 y (20, .inr (10, [.ref (ad 0), .ref (ad 1), .ref (ad 2), .int (iv 3), .int (iv 4), .int (iv 5), .ref (ad 6), .ref (ad 7), .ref (ad 8), .ref (ad 9), .ref (ad 10), .ref (ad 11), .int (iv 12), .ref (ad 13), .ref (ad 14), .ref (ad 15), .ref (ad 16), .ref (ad 17), .ref (ad 18), .ref (ad 19), .int (iv 20), .ref (ad 21), .ref (ad 22), .ref (ad 23), .ref (ad 24), .ref (ad 25), .ref (ad 26), .ref (ad 27), .ref (ad 28), .int (iv 29), .ref (ad 30), .ref (ad 31), .int (iv 32), .int (iv 33), .int (iv 34), .int (iv 35), .long tl, .int (iv 37), .int (iv 38), .int (iv 39), .int (iv 40), .ref (ad 41), .ref (ad 42), .int (nI (od2.length + 1))])) := ⟨_, rfl⟩
        rw [← u19] at w
        have k17 : pd_kq y h9 h16 := by rw [u19]; exact pd_up_kq
        have f18 : h16 y = some (20, .inr (10, [.ref (ad 0), .ref (ad 1), .ref (ad 2), .int (iv 3), .int (iv 4), .int (iv 5), .ref (ad 6), .ref (ad 7), .ref (ad 8), .ref (ad 9), .ref (ad 10), .ref (ad 11), .int (iv 12), .ref (ad 13), .ref (ad 14), .ref (ad 15), .ref (ad 16), .ref (ad 17), .ref (ad 18), .ref (ad 19), .int (iv 20), .ref (ad 21), .ref (ad 22), .ref (ad 23), .ref (ad 24), .ref (ad 25), .ref (ad 26), .ref (ad 27), .ref (ad 28), .int (iv 29), .ref (ad 30), .ref (ad 31), .int (iv 32), .int (iv 33), .int (iv 34), .int (iv 35), .long tl, .int (iv 37), .int (iv 38), .int (iv 39), .int (iv 40), .ref (ad 41), .ref (ad 42), .int (nI (od2.length + 1))])) := by rw [u19]; exact pd_up_s _ _ _
        have f20 := k17 _ _ (pd_ne f14 f13 (by simp)) f14
        have f21 := k17 _ _ (pd_ne f15 f13 (by simp)) f15
        have f22 := k17 _ _ (pd_ne f11 f13 (by simp)) f11
        have hal := al_out hnin
        refine lv_iload hx hb d_p15m25_43 (lv_at hl 5 rfl) ?_
        refine pd_zne (tgt := 54) hx hb d_p15m25_45 (by decide) (by decide) (fun _ => ?_) (fun q => absurd q (by decide))
        refine lv_aload_n hx hb d_p15m25_54 rfl (lv_at hl 1 rfl) ?_
        refine pd_get X w f18 rfl 8 (by decide) mT_1147 rfl rfl d_p15m25_55 ?_
        refine lv_iload hx hb d_p15m25_58 (lv_at hl 0 rfl) ?_
        refine pd_iald X w f20 (by omega) (by omega) d_p15m25_60 ?_
        refine pd_top (v' := .int (pd_m ((R j2).2.2.1))) (congrArg Value.int (hCc j2 (by omega)).2.2.2.2.1) ?_
        refine lv_istore (lv' := [(5, .int (pd_m ((R j2).2.2.1))), (0, .ref y), (1, .int (nI c9)), (2, .int (nI pe)), (3, .int (nI w9)), (4, .int (nI 1))]) hx hb d_p15m25_61 hl (by decide) rfl (fun ls hl => ?_)
        refine lv_goto (tgt := 8) hx hb d_p15m25_63 (by decide) ?_
        have mo24 : pd_MO G h16 y ad (pd_fu (pd_fu (pd_fu fv 41 fo1) 42 fo2) 41 (upd fo1 od2.length (nI j2))) (pd_fu (pd_fu iv 43 v43) 43 (nI (od2.length + 1))) tl := pd_MO.of (ts := [71, 20]) hMO2 (pd_kx.tr (pd_kx.mono (us := [71, 20]) (pd_kq.kx (k10) ha41) (by simp)) (pd_kx.mono (us := [71, 20]) (pd_kq.kx (k17) f13) (by simp))) f18 (fun j hj => if e41 : j = 41 then by subst e41; exact Or.inl f22 else Or.inr ⟨fun z => by first | (simp at z; done) | (simp at z; omega), by rw [pd_fu_n e41]⟩)
        exact ih ((R j2).2.2.1) (fe - 1) (al_add od2 j2) (upd fo1 od2.length (nI j2)) fo2 (nI (od2.length + 1)) h16 (hk2.tr (pd_kx.mono (us := [20, 71, 72]) (pd_kx.tr (pd_kx.mono (us := [71, 20]) (pd_kq.kx (k10) ha41) (by simp)) (pd_kx.mono (us := [71, 20]) (pd_kq.kx (k17) f13) (by simp))) (by simp))) ((pd_MO.ext (fv2 := pd_fu (pd_fu fv 41 (upd fo1 od2.length (nI j2))) 42 (fo2)) (iv2 := pd_fu iv 43 ((nI (od2.length + 1)))) mo24 (fun j9 hj9 => by by_cases e9 : j9 = 42; subst e9; rfl; by_cases e8 : j9 = 41; subst e8; rfl; simp only [pd_fu, if_neg e9, if_neg e8]) rfl)) (fun t ht => Nat.lt_trans (hKx.2.2.1 t ht).1 hxn) (fun t ht => by have := (hKx.2.2.1 t ht).1; omega) (by rw [hal]; exact ⟨by show nI _ = nI _; rw [List.length_append]; rfl, by rw [List.length_append]; simp; omega, gm_O_app hO9.2.2 (by omega)⟩) (al_nd hnd9) (al_lt hlt9 hxn) (by rw [← hv, q1, gm_ch_s hxf]; rfl) (by omega) _ _ w ls (lv_sub hl [0, 1, 2, 3, 4, 5] rfl)
set_option maxHeartbeats 4000000 in
set_option maxRecDepth 100000 in
theorem c_Mod_foundM (l : Launch) (G : pd_G) (h : pd_H) {y : Nat} {ad : Nat → Nat} {fv : Nat → Nat → Int32} {iv : Nat → Int32} {tl : Int64} {n : Nat} {R : Nat → pd_cr} {cs : List Nat} {k : Nat} {M : Nat → pd_mr} {c9 pe tf nw w9 : Nat} {sA eA : Nat → Nat} (hMO : pd_MO G h y ad fv iv tl) (hC : gm_C fv iv n R) (hL : gm_L fv iv cs) (hM : gm_M fv iv n k M) (hK : gm_K n R) (hc9 : c9 < n) (hiv40 : iv 40 = nI tf) (htf : tf ≤ pe) (hpe : pe ≤ cs.length) (hW : gm_W fv cs nw sA eA) (hw9 : w9 < nw) (hmb : gr_ism (tx_sub cs (sA w9) (eA w9)) = true) : pd_M l y_Mod_foundM prog_15_method_25_code 7 (some .int) rm_Mod_foundM G h [.ref y, .int (nI c9), .int (nI pe), .int (nI w9), .int (nI 1)] pd_vm (fun r h1 => r = (gm_all R c9).findSome? (fun j => gr_decl M k j (tx_sub cs tf pe) (tx_sub cs (sA w9) (eA w9))) ∧ pd_kx [20, 71, 72] h h1 ∧ ∃ fo1 fo2 v43, pd_MO G h1 y ad (pd_fu (pd_fu fv 41 fo1) 42 fo2) (pd_fu iv 43 v43) tl) := by
  refine pd_M.of (by decide) (Nat.le_of_ble_eq_true rfl) ?_
  intro p e s m below meth c X hmn w ls hl
  have hx := X.1
  have hb := X.2.1
  have hl : lv_has ls 7 [(0, .ref y), (1, .int (nI c9)), (2, .int (nI pe)), (3, .int (nI w9)), (4, .int (nI 1))] := hl
  have hz_y := hMO.2.1
  have hy0 : h y = some (20, .inr (10, [.ref (ad 0), .ref (ad 1), .ref (ad 2), .int (iv 3), .int (iv 4), .int (iv 5), .ref (ad 6), .ref (ad 7), .ref (ad 8), .ref (ad 9), .ref (ad 10), .ref (ad 11), .int (iv 12), .ref (ad 13), .ref (ad 14), .ref (ad 15), .ref (ad 16), .ref (ad 17), .ref (ad 18), .ref (ad 19), .int (iv 20), .ref (ad 21), .ref (ad 22), .ref (ad 23), .ref (ad 24), .ref (ad 25), .ref (ad 26), .ref (ad 27), .ref (ad 28), .int (iv 29), .ref (ad 30), .ref (ad 31), .int (iv 32), .int (iv 33), .int (iv 34), .int (iv 35), .long tl, .int (iv 37), .int (iv 38), .int (iv 39), .int (iv 40), .ref (ad 41), .ref (ad 42), .int (iv 43)])) := hMO.1
  have ha8 : h (ad 8) = some (38, .inl (.int, 14, .inl (fv 8))) := (hMO.2.2 8 (by decide)).1
  have ha41 : h (ad 41) = some (71, .inl (.int, 16, .inl (fv 41))) := (hMO.2.2 41 (by decide)).1
  have ha42 : h (ad 42) = some (72, .inl (.int, 32, .inl (fv 42))) := (hMO.2.2 42 (by decide)).1
  obtain ⟨hiv12, hn2, hn14, hCc⟩ := id hC
  obtain ⟨hiv3, hln, hl60, hlc⟩ := id hL
  have hk24 := hM.2.1
  refine lv_aload_n hx hb d_p15m25_0 rfl (lv_at hl 0 rfl) ?_
  refine lv_iconst (v := nI 0) hx hb d_p15m25_1 (by decide) ?_
  refine pd_put (ty := .int) X w hy0 hz_y rfl 43 (by decide) mT_1182 rfl rfl (by decide +kernel) rfl rfl (Nat.le_of_ble_eq_true rfl) d_p15m25_2 (fun H locs w => ?_)
  have w : pd_w G s H locs (pd_up h y (20, .inr (10, [.ref (ad 0), .ref (ad 1), .ref (ad 2), .int (iv 3), .int (iv 4), .int (iv 5), .ref (ad 6), .ref (ad 7), .ref (ad 8), .ref (ad 9), .ref (ad 10), .ref (ad 11), .int (iv 12), .ref (ad 13), .ref (ad 14), .ref (ad 15), .ref (ad 16), .ref (ad 17), .ref (ad 18), .ref (ad 19), .int (iv 20), .ref (ad 21), .ref (ad 22), .ref (ad 23), .ref (ad 24), .ref (ad 25), .ref (ad 26), .ref (ad 27), .ref (ad 28), .int (iv 29), .ref (ad 30), .ref (ad 31), .int (iv 32), .int (iv 33), .int (iv 34), .int (iv 35), .long tl, .int (iv 37), .int (iv 38), .int (iv 39), .int (iv 40), .ref (ad 41), .ref (ad 42), .int (nI 0)]))) := w
  obtain ⟨h1, u4⟩ : ∃ z, z = pd_up h y (20, .inr (10, [.ref (ad 0), .ref (ad 1), .ref (ad 2), .int (iv 3), .int (iv 4), .int (iv 5), .ref (ad 6), .ref (ad 7), .ref (ad 8), .ref (ad 9), .ref (ad 10), .ref (ad 11), .int (iv 12), .ref (ad 13), .ref (ad 14), .ref (ad 15), .ref (ad 16), .ref (ad 17), .ref (ad 18), .ref (ad 19), .int (iv 20), .ref (ad 21), .ref (ad 22), .ref (ad 23), .ref (ad 24), .ref (ad 25), .ref (ad 26), .ref (ad 27), .ref (ad 28), .int (iv 29), .ref (ad 30), .ref (ad 31), .int (iv 32), .int (iv 33), .int (iv 34), .int (iv 35), .long tl, .int (iv 37), .int (iv 38), .int (iv 39), .int (iv 40), .ref (ad 41), .ref (ad 42), .int (nI 0)])) := ⟨_, rfl⟩
  rw [← u4] at w
  have k2 : pd_kq y h h1 := by rw [u4]; exact pd_up_kq
  have f3 : h1 y = some (20, .inr (10, [.ref (ad 0), .ref (ad 1), .ref (ad 2), .int (iv 3), .int (iv 4), .int (iv 5), .ref (ad 6), .ref (ad 7), .ref (ad 8), .ref (ad 9), .ref (ad 10), .ref (ad 11), .int (iv 12), .ref (ad 13), .ref (ad 14), .ref (ad 15), .ref (ad 16), .ref (ad 17), .ref (ad 18), .ref (ad 19), .int (iv 20), .ref (ad 21), .ref (ad 22), .ref (ad 23), .ref (ad 24), .ref (ad 25), .ref (ad 26), .ref (ad 27), .ref (ad 28), .int (iv 29), .ref (ad 30), .ref (ad 31), .int (iv 32), .int (iv 33), .int (iv 34), .int (iv 35), .long tl, .int (iv 37), .int (iv 38), .int (iv 39), .int (iv 40), .ref (ad 41), .ref (ad 42), .int (nI 0)])) := by rw [u4]; exact pd_up_s _ _ _
  have f5 := k2 _ _ (pd_ne ha8 hy0 (by simp)) ha8
  have f6 := k2 _ _ (pd_ne ha41 hy0 (by simp)) ha41
  have f7 := k2 _ _ (pd_ne ha42 hy0 (by simp)) ha42
  refine lv_iload_n hx hb d_p15m25_5 rfl (lv_at hl 1 rfl) ?_
  refine lv_istore (lv' := [(5, .int (nI c9)), (0, .ref y), (1, .int (nI c9)), (2, .int (nI pe)), (3, .int (nI w9)), (4, .int (nI 1))]) hx hb d_p15m25_6 hl (by decide) rfl (fun ls hl => ?_)
  have mo8 : pd_MO G h1 y ad fv (pd_fu iv 43 (nI 0)) tl := pd_MO.of (ts := [20]) hMO (pd_kq.kx (k2) hy0) f3 (fun j hj => Or.inr ⟨fun z => by first | (simp at z; done) | (simp at z; omega), rfl⟩)
  exact lp_Mod_foundM_8 l G h hMO hC hL hM hK hc9 hiv40 htf hpe hW hw9 hmb X hmn (14 + 1) (some c9) 14 ([]) (fv 41) (fv 42) (nI 0) h1 (pd_kx.mono (us := [20, 71, 72]) (pd_kq.kx (k2) hy0) (by simp)) ((pd_MO.ext (fv2 := pd_fu (pd_fu fv 41 (fv 41)) 42 (fv 42)) (iv2 := pd_fu iv 43 ((nI 0))) mo8 (fun j9 hj9 => by by_cases e9 : j9 = 42; subst e9; rfl; by_cases e8 : j9 = 41; subst e8; rfl; simp only [pd_fu, if_neg e9, if_neg e8]) rfl)) (fun t ht => by cases ht; exact hc9) (fun t ht => by cases ht; omega) (⟨rfl, Nat.zero_le _, fun i hi => absurd hi (Nat.not_lt_zero i)⟩) (List.nodup_nil) (fun z hz => absurd hz List.not_mem_nil) (rfl) (by omega) _ _ w ls (lv_sub hl [0, 1, 2, 3, 4, 5] rfl)
abbrev y_Mod_foundF : MethodName := ⟨"PolicyDeskModel", "found", "(IIIZ)I"⟩
theorem ok_Mod_foundF : pd_ok y_Mod_foundF prog_15_method_25_code 7 (some .int) 4 := ⟨mT_1400, mT_21, by decide, by decide +kernel⟩
abbrev rm_Mod_foundF : Room := { frames := 2, cells := 0, slots := 0, locals := 51 }
set_option maxHeartbeats 4000000 in
set_option maxRecDepth 100000 in
theorem lp_Mod_foundF_100 (l : Launch) (G : pd_G) (h : pd_H) {y : Nat} {ad : Nat → Nat} {fv : Nat → Nat → Int32} {iv : Nat → Int32} {tl : Int64} {n : Nat} {R : Nat → pd_cr} {cs : List Nat} {k : Nat} {M : Nat → pd_mr} {c9 pe tf nw w9 : Nat} {sA eA : Nat → Nat} (hMO : pd_MO G h y ad fv iv tl) (hC : gm_C fv iv n R) (hL : gm_L fv iv cs) (hM : gm_M fv iv n k M) (hK : gm_K n R) (hc9 : c9 < n) (hiv40 : iv 40 = nI tf) (htf : tf ≤ pe) (hpe : pe ≤ cs.length) (hW : gm_W fv cs nw sA eA) (hw9 : w9 < nw) (hmb : gr_ism (tx_sub cs (sA w9) (eA w9)) = false) {p : Program} {e : Env} {s : State} {m : MethodId} {below : List Frame} {meth : Method} {c : Code} (X : pd_B p s m [.ref y, .int (nI c9), .int (nI pe), .int (nI w9), .int (nI 0)].toArray meth c G y_Mod_foundF.cls prog_15_method_25_code 7 (some .int)) (hmn : meth.name = y_Mod_foundF.name) :
    ∀ (kk9 : Nat) (i : Nat) (od2 : List Nat) (fo1 : Nat → Int32) (fo2 : Nat → Int32) (v43 : Int32) (hh : pd_H), (pd_kx [20, 71, 72] h hh) → (pd_MO G hh y ad (pd_fu (pd_fu fv 41 fo1) 42 fo2) (pd_fu iv 43 v43) tl) → (gm_O (pd_fu (pd_fu fv 41 fo1) 42 fo2) (pd_fu iv 43 v43) od2) → (od2 = gm_fld R c9) → (i ≤ 20) → (∀ t, t < i → gr_decl M k (od2.getD t 0) (tx_sub cs tf pe) (tx_sub cs (sA w9) (eA w9)) = none) → 20 - i < kk9 → ∀ (H : Heap) (locs : List Loc), pd_w G s H locs hh → ∀ ls : Array Slot, lv_has ls 7 [(5, .int (nI i)), (0, .ref y), (1, .int (nI c9)), (2, .int (nI pe)), (3, .int (nI w9)), (4, .int (nI 0))] → W p l e rm_Mod_foundF s m [.ref y, .int (nI c9), .int (nI pe), .int (nI w9), .int (nI 0)].toArray below meth c H locs 0 0 (MQ below (pd_Q G pd_vm (fun r h1 => r = (gm_fld R c9).findSome? (fun j => gr_decl M k j (tx_sub cs tf pe) (tx_sub cs (sA w9) (eA w9))) ∧ pd_kx [20, 71, 72] h h1 ∧ ∃ fo1 fo2 v43, pd_MO G h1 y ad (pd_fu (pd_fu fv 41 fo1) 42 fo2) (pd_fu iv 43 v43) tl)) [.ref y, .int (nI c9), .int (nI pe), .int (nI w9), .int (nI 0)].toArray s rm_Mod_foundF.cells rm_Mod_foundF.slots (fun q => G.2.1 ≤ q)) (F0 m 100 ls []) := by
  have hx := X.1
  have hb := X.2.1
  have hz_y := hMO.2.1
  have hy0 : h y = some (20, .inr (10, [.ref (ad 0), .ref (ad 1), .ref (ad 2), .int (iv 3), .int (iv 4), .int (iv 5), .ref (ad 6), .ref (ad 7), .ref (ad 8), .ref (ad 9), .ref (ad 10), .ref (ad 11), .int (iv 12), .ref (ad 13), .ref (ad 14), .ref (ad 15), .ref (ad 16), .ref (ad 17), .ref (ad 18), .ref (ad 19), .int (iv 20), .ref (ad 21), .ref (ad 22), .ref (ad 23), .ref (ad 24), .ref (ad 25), .ref (ad 26), .ref (ad 27), .ref (ad 28), .int (iv 29), .ref (ad 30), .ref (ad 31), .int (iv 32), .int (iv 33), .int (iv 34), .int (iv 35), .long tl, .int (iv 37), .int (iv 38), .int (iv 39), .int (iv 40), .ref (ad 41), .ref (ad 42), .int (iv 43)])) := hMO.1
  have ha8 : h (ad 8) = some (38, .inl (.int, 14, .inl (fv 8))) := (hMO.2.2 8 (by decide)).1
  have ha41 : h (ad 41) = some (71, .inl (.int, 16, .inl (fv 41))) := (hMO.2.2 41 (by decide)).1
  have ha42 : h (ad 42) = some (72, .inl (.int, 32, .inl (fv 42))) := (hMO.2.2 42 (by decide)).1
  obtain ⟨hiv12, hn2, hn14, hCc⟩ := id hC
  obtain ⟨hiv3, hln, hl60, hlc⟩ := id hL
  have hk24 := hM.2.1
  intro kk9
  induction kk9 with
  | zero => intros; omega
  | succ kk9 ih =>
    intro i od2 fo1 fo2 v43 hh hk2 hMO2 hO9 hall hi hj hmu H locs w ls hl
    have hz_y := hMO2.2.1
    have hy2 : hh y = some (20, .inr (10, [.ref (ad 0), .ref (ad 1), .ref (ad 2), .int (iv 3), .int (iv 4), .int (iv 5), .ref (ad 6), .ref (ad 7), .ref (ad 8), .ref (ad 9), .ref (ad 10), .ref (ad 11), .int (iv 12), .ref (ad 13), .ref (ad 14), .ref (ad 15), .ref (ad 16), .ref (ad 17), .ref (ad 18), .ref (ad 19), .int (iv 20), .ref (ad 21), .ref (ad 22), .ref (ad 23), .ref (ad 24), .ref (ad 25), .ref (ad 26), .ref (ad 27), .ref (ad 28), .int (iv 29), .ref (ad 30), .ref (ad 31), .int (iv 32), .int (iv 33), .int (iv 34), .int (iv 35), .long tl, .int (iv 37), .int (iv 38), .int (iv 39), .int (iv 40), .ref (ad 41), .ref (ad 42), .int v43])) := hMO2.1
    have ha8 : hh (ad 8) = some (38, .inl (.int, 14, .inl (fv 8))) := (hMO2.2.2 8 (by decide)).1
    have ha41 : hh (ad 41) = some (71, .inl (.int, 16, .inl (fo1))) := (hMO2.2.2 41 (by decide)).1
    have ha42 : hh (ad 42) = some (72, .inl (.int, 32, .inl (fo2))) := (hMO2.2.2 42 (by decide)).1
    refine lv_iload hx hb d_p15m25_100 (lv_at hl 0 rfl) ?_
    refine lv_aload_n hx hb d_p15m25_102 rfl (lv_at hl 1 rfl) ?_
    refine pd_get X w hy2 rfl 43 (by decide) mT_1182 rfl rfl d_p15m25_103 ?_
    refine pd_top (v' := .int (nI od2.length)) (congrArg Value.int hO9.1) ?_
    have hol14 := hO9.2.1
    refine pd_jge (tgt := 140) hx hb d_p15m25_106 (by decide) (by omega) (by omega) (fun q1 => ?_) (fun q1 => ?_)
    · -- taken: 140
      refine lv_iconst (v := -1) hx hb d_p15m25_140 (by decide) ?_
      refine W.eq (g2 := F0 m 141 ls [.int (pd_m none)]) rfl ?_
      exact pd_mret (v := none) X w ⟨by rw [← hall]; exact (gm_fs_n (g := (fun j => gr_decl M k j (tx_sub cs tf pe) (tx_sub cs (sA w9) (eA w9)))) (fun t ht => hj t (by omega))).symm, hk2, fo1, fo2, v43, hMO2⟩ (by decide) (by decide) d_p15m25_141
    · -- not taken: 109
      refine lv_aload_n hx hb d_p15m25_109 rfl (lv_at hl 1 rfl) ?_
      refine lv_aload_n hx hb d_p15m25_110 rfl (lv_at hl 1 rfl) ?_
      refine pd_get X w hy2 rfl 41 (by decide) mT_1180 rfl rfl d_p15m25_111 ?_
      refine lv_iload hx hb d_p15m25_114 (lv_at hl 0 rfl) ?_
      refine pd_iald X w ha41 (by omega) (by omega) d_p15m25_116 ?_
      refine pd_top (v' := .int (nI (od2.getD i 0))) (congrArg Value.int (hO9.2.2 i (by omega)).1) ?_
      have hol := (hO9.2.2 i (by omega)).2
      refine lv_iload_n hx hb d_p15m25_117 rfl (lv_at hl 3 rfl) ?_
      refine lv_iload_n hx hb d_p15m25_118 rfl (lv_at hl 4 rfl) ?_
      refine lv_iload hx hb d_p15m25_119 (lv_at hl 5 rfl) ?_
      refine pd_cV (a := y) (As := [.int (nI (od2.getD i 0)), .int (nI pe), .int (nI w9), .int (nI 0)]) (rest := []) X w hy2 rfl (c_Mod_ownW l G hh (cs := cs) (n := n) (k := k) (M := M) (c9 := od2.getD i 0) (pe := pe) (tf := tf) (mb := false) (nw := nw) (w9 := w9) (sA := sA) (eA := eA) (ad := ad) (fv := pd_fu (pd_fu fv 41 fo1) 42 fo2) (iv := pd_fu iv 43 v43) (tl := tl) hMO2 hL hM (by omega) (by omega) hiv40 (by omega) (by omega) hW (by omega) hmb) ok_Mod_ownW ⟨mT_1360, sT_29⟩ mT_1358 ⟨by decide, by decide⟩ rfl hl.1 rfl (Nat.le_of_ble_eq_true rfl) d_p15m25_121 ⟨by decide, by decide⟩ (fun r2 h3 H locs hp4 w => ?_)
      refine W.widen (k := 0) (n := 0) (by decide) (by decide) ?_
      obtain ⟨e5, rfl⟩ := hp4
      refine lv_istore (lv' := [(6, .int (pd_m r2)), (5, .int (nI i)), (0, .ref y), (1, .int (nI c9)), (2, .int (nI pe)), (3, .int (nI w9)), (4, .int (nI 0))]) hx hb d_p15m25_124 hl (by decide) rfl (fun ls hl => ?_)
      refine lv_iload hx hb d_p15m25_126 (lv_at hl 0 rfl) ?_
      refine pd_mlt (tgt := 134) hx hb d_p15m25_128 (by decide) (fun x hx => by have z := gr_fi_lt (e5.symm.trans hx); omega) (fun q6 => ?_) (fun j7 q6 => ?_)
      · -- none: 134
        rw [q6] at e5
        rw [q6] at hl
        have hl : lv_has ls 7 [(6, .int (-1)), (5, .int (nI i)), (0, .ref y), (1, .int (nI c9)), (2, .int (nI pe)), (3, .int (nI w9)), (4, .int (nI 0))] := hl
        refine pd_iinc (k := 1) (d := 1) (lv' := [(5, .int (nI (i + 1))), (6, .int (-1)), (0, .ref y), (1, .int (nI c9)), (2, .int (nI pe)), (3, .int (nI w9)), (4, .int (nI 0))]) hx hb d_p15m25_134 (by decide) hl rfl (by decide) rfl (fun ls hl => ?_)
        refine lv_goto (tgt := 100) hx hb d_p15m25_137 (by decide) ?_
        exact ih (i + 1) od2 fo1 fo2 v43 hh (hk2) (hMO2) (hO9) (hall) (by omega) (fun t ht => by by_cases e9 : t = i; subst e9; exact e5.symm; exact hj t (by omega)) (by omega) _ _ w ls (lv_sub hl [0, 2, 3, 4, 5, 6] rfl)
      · -- some: 131
        rw [q6] at e5
        rw [q6] at hl
        have hl : lv_has ls 7 [(6, .int (nI j7)), (5, .int (nI i)), (0, .ref y), (1, .int (nI c9)), (2, .int (nI pe)), (3, .int (nI w9)), (4, .int (nI 0))] := hl
        have j7lt := gr_fi_lt e5.symm
        refine lv_iload hx hb d_p15m25_131 (lv_at hl 0 rfl) ?_
        refine W.eq (g2 := F0 m 133 ls [.int (pd_m (some j7))]) rfl ?_
        exact pd_mret (v := (some j7)) X w ⟨by rw [← hall]; exact (gm_fs_y (g := (fun j => gr_decl M k j (tx_sub cs tf pe) (tx_sub cs (sA w9) (eA w9)))) (i := i) (by omega) hj e5.symm).symm, hk2, fo1, fo2, v43, hMO2⟩ (by decide) (by decide) d_p15m25_133
set_option maxHeartbeats 4000000 in
set_option maxRecDepth 100000 in
theorem lp_Mod_foundF_8 (l : Launch) (G : pd_G) (h : pd_H) {y : Nat} {ad : Nat → Nat} {fv : Nat → Nat → Int32} {iv : Nat → Int32} {tl : Int64} {n : Nat} {R : Nat → pd_cr} {cs : List Nat} {k : Nat} {M : Nat → pd_mr} {c9 pe tf nw w9 : Nat} {sA eA : Nat → Nat} (hMO : pd_MO G h y ad fv iv tl) (hC : gm_C fv iv n R) (hL : gm_L fv iv cs) (hM : gm_M fv iv n k M) (hK : gm_K n R) (hc9 : c9 < n) (hiv40 : iv 40 = nI tf) (htf : tf ≤ pe) (hpe : pe ≤ cs.length) (hW : gm_W fv cs nw sA eA) (hw9 : w9 < nw) (hmb : gr_ism (tx_sub cs (sA w9) (eA w9)) = false) {p : Program} {e : Env} {s : State} {m : MethodId} {below : List Frame} {meth : Method} {c : Code} (X : pd_B p s m [.ref y, .int (nI c9), .int (nI pe), .int (nI w9), .int (nI 0)].toArray meth c G y_Mod_foundF.cls prog_15_method_25_code 7 (some .int)) (hmn : meth.name = y_Mod_foundF.name) :
    ∀ (kk9 : Nat) (o9 : Option Nat) (fe : Nat) (od2 : List Nat) (fo1 : Nat → Int32) (fo2 : Nat → Int32) (v43 : Int32) (hh : pd_H), (pd_kx [20, 71, 72] h hh) → (pd_MO G hh y ad (pd_fu (pd_fu fv 41 fo1) 42 fo2) (pd_fu iv 43 v43) tl) → (∀ t, o9 = some t → t < n) → (∀ t, o9 = some t → t < fe) → (gm_O (pd_fu (pd_fu fv 41 fo1) 42 fo2) (pd_fu iv 43 v43) od2) → (od2.Nodup) → (∀ z ∈ od2, z < n) → (gm_cl R none od2) → ((gm_ch R fe o9).foldl (gm_G R) od2 = (gm_ch R 14 (some c9)).foldl (gm_G R) []) → fe < kk9 → ∀ (H : Heap) (locs : List Loc), pd_w G s H locs hh → ∀ ls : Array Slot, lv_has ls 7 [(5, .int (pd_m o9)), (0, .ref y), (1, .int (nI c9)), (2, .int (nI pe)), (3, .int (nI w9)), (4, .int (nI 0))] → W p l e rm_Mod_foundF s m [.ref y, .int (nI c9), .int (nI pe), .int (nI w9), .int (nI 0)].toArray below meth c H locs 0 0 (MQ below (pd_Q G pd_vm (fun r h1 => r = (gm_fld R c9).findSome? (fun j => gr_decl M k j (tx_sub cs tf pe) (tx_sub cs (sA w9) (eA w9))) ∧ pd_kx [20, 71, 72] h h1 ∧ ∃ fo1 fo2 v43, pd_MO G h1 y ad (pd_fu (pd_fu fv 41 fo1) 42 fo2) (pd_fu iv 43 v43) tl)) [.ref y, .int (nI c9), .int (nI pe), .int (nI w9), .int (nI 0)].toArray s rm_Mod_foundF.cells rm_Mod_foundF.slots (fun q => G.2.1 ≤ q)) (F0 m 8 ls []) := by
  have hx := X.1
  have hb := X.2.1
  have hz_y := hMO.2.1
  have hy0 : h y = some (20, .inr (10, [.ref (ad 0), .ref (ad 1), .ref (ad 2), .int (iv 3), .int (iv 4), .int (iv 5), .ref (ad 6), .ref (ad 7), .ref (ad 8), .ref (ad 9), .ref (ad 10), .ref (ad 11), .int (iv 12), .ref (ad 13), .ref (ad 14), .ref (ad 15), .ref (ad 16), .ref (ad 17), .ref (ad 18), .ref (ad 19), .int (iv 20), .ref (ad 21), .ref (ad 22), .ref (ad 23), .ref (ad 24), .ref (ad 25), .ref (ad 26), .ref (ad 27), .ref (ad 28), .int (iv 29), .ref (ad 30), .ref (ad 31), .int (iv 32), .int (iv 33), .int (iv 34), .int (iv 35), .long tl, .int (iv 37), .int (iv 38), .int (iv 39), .int (iv 40), .ref (ad 41), .ref (ad 42), .int (iv 43)])) := hMO.1
  have ha8 : h (ad 8) = some (38, .inl (.int, 14, .inl (fv 8))) := (hMO.2.2 8 (by decide)).1
  have ha41 : h (ad 41) = some (71, .inl (.int, 16, .inl (fv 41))) := (hMO.2.2 41 (by decide)).1
  have ha42 : h (ad 42) = some (72, .inl (.int, 32, .inl (fv 42))) := (hMO.2.2 42 (by decide)).1
  obtain ⟨hiv12, hn2, hn14, hCc⟩ := id hC
  obtain ⟨hiv3, hln, hl60, hlc⟩ := id hL
  have hk24 := hM.2.1
  intro kk9
  induction kk9 with
  | zero => intros; omega
  | succ kk9 ih =>
    intro o9 fe od2 fo1 fo2 v43 hh hk2 hMO2 ho9 hfe hO9 hnd9 hlt9 hcl hv hmu H locs w ls hl
    have hz_y := hMO2.2.1
    have hy2 : hh y = some (20, .inr (10, [.ref (ad 0), .ref (ad 1), .ref (ad 2), .int (iv 3), .int (iv 4), .int (iv 5), .ref (ad 6), .ref (ad 7), .ref (ad 8), .ref (ad 9), .ref (ad 10), .ref (ad 11), .int (iv 12), .ref (ad 13), .ref (ad 14), .ref (ad 15), .ref (ad 16), .ref (ad 17), .ref (ad 18), .ref (ad 19), .int (iv 20), .ref (ad 21), .ref (ad 22), .ref (ad 23), .ref (ad 24), .ref (ad 25), .ref (ad 26), .ref (ad 27), .ref (ad 28), .int (iv 29), .ref (ad 30), .ref (ad 31), .int (iv 32), .int (iv 33), .int (iv 34), .int (iv 35), .long tl, .int (iv 37), .int (iv 38), .int (iv 39), .int (iv 40), .ref (ad 41), .ref (ad 42), .int v43])) := hMO2.1
    have ha8 : hh (ad 8) = some (38, .inl (.int, 14, .inl (fv 8))) := (hMO2.2.2 8 (by decide)).1
    have ha41 : hh (ad 41) = some (71, .inl (.int, 16, .inl (fo1))) := (hMO2.2.2 41 (by decide)).1
    have ha42 : hh (ad 42) = some (72, .inl (.int, 32, .inl (fo2))) := (hMO2.2.2 42 (by decide)).1
    have hil : ∀ x, o9 = some x → x < 2 ^ 31 := fun x hx => by have := ho9 x hx; omega
    refine lv_iload hx hb d_p15m25_8 (lv_at hl 0 rfl) ?_
    refine pd_mlt (tgt := 66) hx hb d_p15m25_10 (by decide) hil (fun q1 => ?_) (fun j2 q1 => ?_)
    · -- none: 66
      rw [q1] at hl
      have hl : lv_has ls 7 [(5, .int (-1)), (0, .ref y), (1, .int (nI c9)), (2, .int (nI pe)), (3, .int (nI w9)), (4, .int (nI 0))] := hl
      have hall : od2 = gm_fld R c9 := by unfold gm_fld; rw [← hv, q1, gm_ch_0]; rfl
      refine lv_iload_n hx hb d_p15m25_66 rfl (lv_at hl 2 rfl) ?_
      refine lv_istore (lv' := [(5, .int (nI c9)), (0, .ref y), (1, .int (nI c9)), (2, .int (nI pe)), (3, .int (nI w9)), (4, .int (nI 0))]) hx hb d_p15m25_67 hl (by decide) rfl (fun ls hl => ?_)
      refine lv_iload hx hb d_p15m25_69 (lv_at hl 0 rfl) ?_
      refine pd_zlt (tgt := 97) hx hb d_p15m25_71 (by decide) (by omega) ?_
      refine lv_iload hx hb d_p15m25_74 (lv_at hl 5 rfl) ?_
      refine pd_zeq (tgt := 97) hx hb d_p15m25_76 (by decide) (by decide) (fun _ => ?_) (fun q => absurd q (by decide))
      refine lv_iconst (v := nI 0) hx hb d_p15m25_97 (by decide) ?_
      refine lv_istore (lv' := [(5, .int (nI 0)), (0, .ref y), (1, .int (nI c9)), (2, .int (nI pe)), (3, .int (nI w9)), (4, .int (nI 0))]) hx hb d_p15m25_98 hl (by decide) rfl (fun ls hl => ?_)
      exact lp_Mod_foundF_100 l G h hMO hC hL hM hK hc9 hiv40 htf hpe hW hw9 hmb X hmn (20 + 1) 0 od2 fo1 fo2 v43 hh (hk2) (hMO2) (hO9) (hall) (by omega) (fun t ht => absurd ht (Nat.not_lt_zero t)) (by omega) _ _ w ls (lv_sub hl [0, 1, 2, 3, 4, 5] rfl)
    · -- some: 13
      rw [q1] at hl
      have hl : lv_has ls 7 [(5, .int (nI j2)), (0, .ref y), (1, .int (nI c9)), (2, .int (nI pe)), (3, .int (nI w9)), (4, .int (nI 0))] := hl
      have hxn := ho9 j2 q1
      have hxf := hfe j2 q1
      have hKx := hK j2 (by omega)
      refine lv_aload_n hx hb d_p15m25_13 rfl (lv_at hl 1 rfl) ?_
      refine lv_iload hx hb d_p15m25_14 (lv_at hl 0 rfl) ?_
      refine pd_cV (a := y) (As := [.int (nI j2)]) (rest := []) X w hy2 rfl (c_Mod_isOrdered l G hh (od := od2) (ad := ad) (fv := pd_fu (pd_fu fv 41 fo1) 42 fo2) (iv := pd_fu iv 43 v43) (tl := tl) hMO2 hO9 (by omega)) ok_Mod_isOrdered ⟨mT_1403, sT_38⟩ mT_1401 ⟨by decide, by decide⟩ rfl hl.1 rfl (Nat.le_of_ble_eq_true rfl) d_p15m25_16 ⟨by decide, by decide⟩ (fun r5 h6 H locs hp7 w => ?_)
      refine W.widen (k := 0) (n := 0) (by decide) (by decide) ?_
      obtain ⟨e8, rfl⟩ := hp7
      refine pd_bne (tgt := 43) hx hb d_p15m25_19 (by decide) (fun q9 => ?_) (fun q9 => ?_)
      · -- taken: 43
        have hin9 : j2 ∈ od2 := of_decide_eq_true (e8.symm.trans q9)
        have hal := al_in hin9
        refine lv_iload hx hb d_p15m25_43 (lv_at hl 5 rfl) ?_
        refine pd_zne (tgt := 54) hx hb d_p15m25_45 (by decide) (by decide) (fun q => absurd q (by decide)) (fun _ => ?_)
        refine lv_aload_n hx hb d_p15m25_48 rfl (lv_at hl 1 rfl) ?_
        refine lv_iload hx hb d_p15m25_49 (lv_at hl 0 rfl) ?_
        refine pd_cVv (a := y) (As := [.int (nI j2)]) (rest := []) X w hy2 rfl (c_Mod_facesFrom l G hh (n := n) (R := R) (od := al_add od2 j2) (ad := ad) (fv := pd_fu (pd_fu fv 41 fo1) 42 fo2) (iv := pd_fu iv 43 v43) (tl := tl) hMO2 hC hK (by rw [hal]; exact hO9) (by omega) (gm_cl.J hK hxn (gm_cl.add hcl.cl)) (al_nd hnd9) (al_lt hlt9 hxn)) ok_Mod_facesFrom ⟨mT_1407, sT_39⟩ mT_1405 ⟨by decide, by decide⟩ rfl hl.1 rfl (Nat.le_of_ble_eq_true rfl) d_p15m25_51 ⟨by decide, by decide⟩ (fun h12 H locs hp13 w => ?_)
        refine W.widen (k := 0) (n := 0) (by decide) (by decide) ?_
        obtain ⟨k14, f15, f16, v17, f18, f19⟩ := hp13
        have f20 := k14 _ _ ha8 (show (38 : Nat) ∉ [20, 71, 72] by decide)
        have mo22 : pd_MO G h12 y ad (pd_fu (pd_fu fv 41 f15) 42 f16) (pd_fu iv 43 v17) tl := pd_MO.ext f18 (fun j9 hj9 => by by_cases e941 : j9 = 41; subst e941; rfl; by_cases e942 : j9 = 42; subst e942; rfl; simp only [pd_fu, if_neg e941, if_neg e942]) rfl
        have hy23 : h12 y = some (20, .inr (10, [.ref (ad 0), .ref (ad 1), .ref (ad 2), .int (iv 3), .int (iv 4), .int (iv 5), .ref (ad 6), .ref (ad 7), .ref (ad 8), .ref (ad 9), .ref (ad 10), .ref (ad 11), .int (iv 12), .ref (ad 13), .ref (ad 14), .ref (ad 15), .ref (ad 16), .ref (ad 17), .ref (ad 18), .ref (ad 19), .int (iv 20), .ref (ad 21), .ref (ad 22), .ref (ad 23), .ref (ad 24), .ref (ad 25), .ref (ad 26), .ref (ad 27), .ref (ad 28), .int (iv 29), .ref (ad 30), .ref (ad 31), .int (iv 32), .int (iv 33), .int (iv 34), .int (iv 35), .long tl, .int (iv 37), .int (iv 38), .int (iv 39), .int (iv 40), .ref (ad 41), .ref (ad 42), .int v17])) := mo22.1
        have ha24 : h12 (ad 8) = some (38, .inl (.int, 14, .inl (fv 8))) := (mo22.2.2 8 (by decide)).1
        have ha25 : h12 (ad 41) = some (71, .inl (.int, 16, .inl (f15))) := (mo22.2.2 41 (by decide)).1
        have ha26 : h12 (ad 42) = some (72, .inl (.int, 32, .inl (f16))) := (mo22.2.2 42 (by decide)).1
        have f21 : gm_O (pd_fu (pd_fu fv 41 f15) 42 f16) (pd_fu iv 43 v17) (gm_F R (al_add od2 j2) j2) := f19
        refine lv_aload_n hx hb d_p15m25_54 rfl (lv_at hl 1 rfl) ?_
        refine pd_get X w hy23 rfl 8 (by decide) mT_1147 rfl rfl d_p15m25_55 ?_
        refine lv_iload hx hb d_p15m25_58 (lv_at hl 0 rfl) ?_
        refine pd_iald X w ha24 (by omega) (by omega) d_p15m25_60 ?_
        refine pd_top (v' := .int (pd_m ((R j2).2.2.1))) (congrArg Value.int (hCc j2 (by omega)).2.2.2.2.1) ?_
        refine lv_istore (lv' := [(5, .int (pd_m ((R j2).2.2.1))), (0, .ref y), (1, .int (nI c9)), (2, .int (nI pe)), (3, .int (nI w9)), (4, .int (nI 0))]) hx hb d_p15m25_61 hl (by decide) rfl (fun ls hl => ?_)
        refine lv_goto (tgt := 8) hx hb d_p15m25_63 (by decide) ?_
        exact ih ((R j2).2.2.1) (fe - 1) (gm_G R od2 j2) f15 f16 v17 h12 (hk2.tr (k14)) (mo22) (fun t ht => Nat.lt_trans (hKx.2.2.1 t ht).1 hxn) (fun t ht => by have := (hKx.2.2.1 t ht).1; omega) (f21) (al_fold_nd _ _ (al_nd hnd9)) (al_fold_lt _ _ (al_lt hlt9 hxn) (gm_F_lt hK j2 hxn)) (gm_cl.next hK hxn (gm_cl.add hcl.cl)) (by rw [← hv, q1, gm_ch_s hxf]; rfl) (by omega) _ _ w ls (lv_sub hl [0, 1, 2, 3, 4, 5] rfl)
      · -- not taken: 22
        have hnin : j2 ∉ od2 := of_decide_eq_false (e8.symm.trans q9)
        have hod13 := gm_J_len hnd9 hlt9 hxn hnin hn14
        have hOl := hO9.1
        refine lv_aload_n hx hb d_p15m25_22 rfl (lv_at hl 1 rfl) ?_
        refine pd_get X w hy2 rfl 41 (by decide) mT_1180 rfl rfl d_p15m25_23 ?_
        refine lv_aload_n hx hb d_p15m25_26 rfl (lv_at hl 1 rfl) ?_
        refine pd_get X w hy2 rfl 43 (by decide) mT_1182 rfl rfl d_p15m25_27 ?_
        refine pd_top (v' := .int (nI od2.length)) (congrArg Value.int hO9.1) ?_
        refine lv_iload hx hb d_p15m25_30 (lv_at hl 0 rfl) ?_
        refine pd_iast X w ha41 (hMO.2.2 41 (by decide)).2 (by omega) (by omega) d_p15m25_32 (fun H locs w => ?_)
        have w : pd_w G s H locs (pd_up hh (ad 41) (71, .inl (.int, 16, .inl (upd fo1 od2.length (nI j2))))) := w
        obtain ⟨h27, u30⟩ : ∃ z, z = pd_up hh (ad 41) (71, .inl (.int, 16, .inl (upd fo1 od2.length (nI j2)))) := ⟨_, rfl⟩
        rw [← u30] at w
        have k28 : pd_kq (ad 41) hh h27 := by rw [u30]; exact pd_up_kq
        have f29 : h27 (ad 41) = some (71, .inl (.int, 16, .inl (upd fo1 od2.length (nI j2)))) := by rw [u30]; exact pd_up_s _ _ _
        have f31 := k28 _ _ (pd_ne hy2 ha41 (by simp)) hy2
        have f32 := k28 _ _ (pd_ne ha8 ha41 (by simp)) ha8
        have f33 := k28 _ _ (pd_ne ha42 ha41 (by simp)) ha42
        refine lv_aload_n hx hb d_p15m25_33 rfl (lv_at hl 1 rfl) ?_
        refine lv_dup hx hb d_p15m25_34 rfl ?_
        refine pd_get X w f31 rfl 43 (by decide) mT_1182 rfl rfl d_p15m25_35 ?_
        refine pd_top (v' := .int (nI od2.length)) (congrArg Value.int hO9.1) ?_
        refine lv_iconst (v := nI 1) hx hb d_p15m25_38 (by decide) ?_
        refine pd_iadd hx hb d_p15m25_39 ?_
        refine pd_put (ty := .int) X w f31 hz_y rfl 43 (by decide) mT_1182 rfl rfl (by decide +kernel) rfl rfl (Nat.le_of_ble_eq_true rfl) d_p15m25_40 (fun H locs w => ?_)
        have w : pd_w G s H locs (pd_up h27 y (20, .inr (10, [.ref (ad 0), .ref (ad 1), .ref (ad 2), .int (iv 3), .int (iv 4), .int (iv 5), .ref (ad 6), .ref (ad 7), .ref (ad 8), .ref (ad 9), .ref (ad 10), .ref (ad 11), .int (iv 12), .ref (ad 13), .ref (ad 14), .ref (ad 15), .ref (ad 16), .ref (ad 17), .ref (ad 18), .ref (ad 19), .int (iv 20), .ref (ad 21), .ref (ad 22), .ref (ad 23), .ref (ad 24), .ref (ad 25), .ref (ad 26), .ref (ad 27), .ref (ad 28), .int (iv 29), .ref (ad 30), .ref (ad 31), .int (iv 32), .int (iv 33), .int (iv 34), .int (iv 35), .long tl, .int (iv 37), .int (iv 38), .int (iv 39), .int (iv 40), .ref (ad 41), .ref (ad 42), .int (nI (od2.length + 1))]))) := w
        obtain ⟨h34, u37⟩ : ∃ z, z = pd_up h27 y (20, .inr (10, [.ref (ad 0), .ref (ad 1), .ref (ad 2), .int (iv 3), .int (iv 4), .int (iv 5), .ref (ad 6), .ref (ad 7), .ref (ad 8), .ref (ad 9), .ref (ad 10), .ref (ad 11), .int (iv 12), .ref (ad 13), .ref (ad 14), .ref (ad 15), .ref (ad 16), .ref (ad 17), .ref (ad 18), .ref (ad 19), .int (iv 20), .ref (ad 21), .ref (ad 22), .ref (ad 23), .ref (ad 24), .ref (ad 25), .ref (ad 26), .ref (ad 27), .ref (ad 28), .int (iv 29), .ref (ad 30), .ref (ad 31), .int (iv 32), .int (iv 33), .int (iv 34), .int (iv 35), .long tl, .int (iv 37), .int (iv 38), .int (iv 39), .int (iv 40), .ref (ad 41), .ref (ad 42), .int (nI (od2.length + 1))])) := ⟨_, rfl⟩
        rw [← u37] at w
        have k35 : pd_kq y h27 h34 := by rw [u37]; exact pd_up_kq
        have f36 : h34 y = some (20, .inr (10, [.ref (ad 0), .ref (ad 1), .ref (ad 2), .int (iv 3), .int (iv 4), .int (iv 5), .ref (ad 6), .ref (ad 7), .ref (ad 8), .ref (ad 9), .ref (ad 10), .ref (ad 11), .int (iv 12), .ref (ad 13), .ref (ad 14), .ref (ad 15), .ref (ad 16), .ref (ad 17), .ref (ad 18), .ref (ad 19), .int (iv 20), .ref (ad 21), .ref (ad 22), .ref (ad 23), .ref (ad 24), .ref (ad 25), .ref (ad 26), .ref (ad 27), .ref (ad 28), .int (iv 29), .ref (ad 30), .ref (ad 31), .int (iv 32), .int (iv 33), .int (iv 34), .int (iv 35), .long tl, .int (iv 37), .int (iv 38), .int (iv 39), .int (iv 40), .ref (ad 41), .ref (ad 42), .int (nI (od2.length + 1))])) := by rw [u37]; exact pd_up_s _ _ _
        have f38 := k35 _ _ (pd_ne f32 f31 (by simp)) f32
        have f39 := k35 _ _ (pd_ne f33 f31 (by simp)) f33
        have f40 := k35 _ _ (pd_ne f29 f31 (by simp)) f29
        have hal := al_out hnin
        refine lv_iload hx hb d_p15m25_43 (lv_at hl 5 rfl) ?_
        refine pd_zne (tgt := 54) hx hb d_p15m25_45 (by decide) (by decide) (fun q => absurd q (by decide)) (fun _ => ?_)
        refine lv_aload_n hx hb d_p15m25_48 rfl (lv_at hl 1 rfl) ?_
        refine lv_iload hx hb d_p15m25_49 (lv_at hl 0 rfl) ?_
        have mo42 : pd_MO G h34 y ad (pd_fu (pd_fu (pd_fu fv 41 fo1) 42 fo2) 41 (upd fo1 od2.length (nI j2))) (pd_fu (pd_fu iv 43 v43) 43 (nI (od2.length + 1))) tl := pd_MO.of (ts := [71, 20]) hMO2 (pd_kx.tr (pd_kx.mono (us := [71, 20]) (pd_kq.kx (k28) ha41) (by simp)) (pd_kx.mono (us := [71, 20]) (pd_kq.kx (k35) f31) (by simp))) f36 (fun j hj => if e41 : j = 41 then by subst e41; exact Or.inl f40 else Or.inr ⟨fun z => by first | (simp at z; done) | (simp at z; omega), by rw [pd_fu_n e41]⟩)
        refine pd_cVv (a := y) (As := [.int (nI j2)]) (rest := []) X w f36 rfl (c_Mod_facesFrom l G h34 (n := n) (R := R) (od := al_add od2 j2) (ad := ad) (fv := pd_fu (pd_fu (pd_fu fv 41 fo1) 42 fo2) 41 (upd fo1 od2.length (nI j2))) (iv := pd_fu (pd_fu iv 43 v43) 43 (nI (od2.length + 1))) (tl := tl) mo42 hC hK (by rw [hal]; exact ⟨by show nI _ = nI _; rw [List.length_append]; rfl, by rw [List.length_append]; simp; omega, gm_O_app hO9.2.2 (by omega)⟩) (by omega) (gm_cl.J hK hxn (gm_cl.add hcl.cl)) (al_nd hnd9) (al_lt hlt9 hxn)) ok_Mod_facesFrom ⟨mT_1407, sT_39⟩ mT_1405 ⟨by decide, by decide⟩ rfl hl.1 rfl (Nat.le_of_ble_eq_true rfl) d_p15m25_51 ⟨by decide, by decide⟩ (fun h44 H locs hp45 w => ?_)
        refine W.widen (k := 0) (n := 0) (by decide) (by decide) ?_
        obtain ⟨k46, f47, f48, v49, f50, f51⟩ := hp45
        have f52 := k46 _ _ f38 (show (38 : Nat) ∉ [20, 71, 72] by decide)
        have mo54 : pd_MO G h44 y ad (pd_fu (pd_fu fv 41 f47) 42 f48) (pd_fu iv 43 v49) tl := pd_MO.ext f50 (fun j9 hj9 => by by_cases e941 : j9 = 41; subst e941; rfl; by_cases e942 : j9 = 42; subst e942; rfl; simp only [pd_fu, if_neg e941, if_neg e942]) rfl
        have hy55 : h44 y = some (20, .inr (10, [.ref (ad 0), .ref (ad 1), .ref (ad 2), .int (iv 3), .int (iv 4), .int (iv 5), .ref (ad 6), .ref (ad 7), .ref (ad 8), .ref (ad 9), .ref (ad 10), .ref (ad 11), .int (iv 12), .ref (ad 13), .ref (ad 14), .ref (ad 15), .ref (ad 16), .ref (ad 17), .ref (ad 18), .ref (ad 19), .int (iv 20), .ref (ad 21), .ref (ad 22), .ref (ad 23), .ref (ad 24), .ref (ad 25), .ref (ad 26), .ref (ad 27), .ref (ad 28), .int (iv 29), .ref (ad 30), .ref (ad 31), .int (iv 32), .int (iv 33), .int (iv 34), .int (iv 35), .long tl, .int (iv 37), .int (iv 38), .int (iv 39), .int (iv 40), .ref (ad 41), .ref (ad 42), .int v49])) := mo54.1
        have ha56 : h44 (ad 8) = some (38, .inl (.int, 14, .inl (fv 8))) := (mo54.2.2 8 (by decide)).1
        have ha57 : h44 (ad 41) = some (71, .inl (.int, 16, .inl (f47))) := (mo54.2.2 41 (by decide)).1
        have ha58 : h44 (ad 42) = some (72, .inl (.int, 32, .inl (f48))) := (mo54.2.2 42 (by decide)).1
        have f53 : gm_O (pd_fu (pd_fu fv 41 f47) 42 f48) (pd_fu iv 43 v49) (gm_F R (al_add od2 j2) j2) := f51
        refine lv_aload_n hx hb d_p15m25_54 rfl (lv_at hl 1 rfl) ?_
        refine pd_get X w hy55 rfl 8 (by decide) mT_1147 rfl rfl d_p15m25_55 ?_
        refine lv_iload hx hb d_p15m25_58 (lv_at hl 0 rfl) ?_
        refine pd_iald X w ha56 (by omega) (by omega) d_p15m25_60 ?_
        refine pd_top (v' := .int (pd_m ((R j2).2.2.1))) (congrArg Value.int (hCc j2 (by omega)).2.2.2.2.1) ?_
        refine lv_istore (lv' := [(5, .int (pd_m ((R j2).2.2.1))), (0, .ref y), (1, .int (nI c9)), (2, .int (nI pe)), (3, .int (nI w9)), (4, .int (nI 0))]) hx hb d_p15m25_61 hl (by decide) rfl (fun ls hl => ?_)
        refine lv_goto (tgt := 8) hx hb d_p15m25_63 (by decide) ?_
        exact ih ((R j2).2.2.1) (fe - 1) (gm_G R od2 j2) f47 f48 v49 h44 (hk2.tr (pd_kx.mono (us := [20, 71, 72]) (pd_kx.tr (pd_kx.mono (us := [71, 20, 72]) (pd_kx.tr (pd_kx.mono (us := [71, 20]) (pd_kq.kx (k28) ha41) (by simp)) (pd_kx.mono (us := [71, 20]) (pd_kq.kx (k35) f31) (by simp))) (by simp)) (pd_kx.mono (us := [71, 20, 72]) (k46) (by simp))) (by simp))) (mo54) (fun t ht => Nat.lt_trans (hKx.2.2.1 t ht).1 hxn) (fun t ht => by have := (hKx.2.2.1 t ht).1; omega) (f53) (al_fold_nd _ _ (al_nd hnd9)) (al_fold_lt _ _ (al_lt hlt9 hxn) (gm_F_lt hK j2 hxn)) (gm_cl.next hK hxn (gm_cl.add hcl.cl)) (by rw [← hv, q1, gm_ch_s hxf]; rfl) (by omega) _ _ w ls (lv_sub hl [0, 1, 2, 3, 4, 5] rfl)
set_option maxHeartbeats 4000000 in
set_option maxRecDepth 100000 in
theorem c_Mod_foundF (l : Launch) (G : pd_G) (h : pd_H) {y : Nat} {ad : Nat → Nat} {fv : Nat → Nat → Int32} {iv : Nat → Int32} {tl : Int64} {n : Nat} {R : Nat → pd_cr} {cs : List Nat} {k : Nat} {M : Nat → pd_mr} {c9 pe tf nw w9 : Nat} {sA eA : Nat → Nat} (hMO : pd_MO G h y ad fv iv tl) (hC : gm_C fv iv n R) (hL : gm_L fv iv cs) (hM : gm_M fv iv n k M) (hK : gm_K n R) (hc9 : c9 < n) (hiv40 : iv 40 = nI tf) (htf : tf ≤ pe) (hpe : pe ≤ cs.length) (hW : gm_W fv cs nw sA eA) (hw9 : w9 < nw) (hmb : gr_ism (tx_sub cs (sA w9) (eA w9)) = false) : pd_M l y_Mod_foundF prog_15_method_25_code 7 (some .int) rm_Mod_foundF G h [.ref y, .int (nI c9), .int (nI pe), .int (nI w9), .int (nI 0)] pd_vm (fun r h1 => r = (gm_fld R c9).findSome? (fun j => gr_decl M k j (tx_sub cs tf pe) (tx_sub cs (sA w9) (eA w9))) ∧ pd_kx [20, 71, 72] h h1 ∧ ∃ fo1 fo2 v43, pd_MO G h1 y ad (pd_fu (pd_fu fv 41 fo1) 42 fo2) (pd_fu iv 43 v43) tl) := by
  refine pd_M.of (by decide) (Nat.le_of_ble_eq_true rfl) ?_
  intro p e s m below meth c X hmn w ls hl
  have hx := X.1
  have hb := X.2.1
  have hl : lv_has ls 7 [(0, .ref y), (1, .int (nI c9)), (2, .int (nI pe)), (3, .int (nI w9)), (4, .int (nI 0))] := hl
  have hz_y := hMO.2.1
  have hy0 : h y = some (20, .inr (10, [.ref (ad 0), .ref (ad 1), .ref (ad 2), .int (iv 3), .int (iv 4), .int (iv 5), .ref (ad 6), .ref (ad 7), .ref (ad 8), .ref (ad 9), .ref (ad 10), .ref (ad 11), .int (iv 12), .ref (ad 13), .ref (ad 14), .ref (ad 15), .ref (ad 16), .ref (ad 17), .ref (ad 18), .ref (ad 19), .int (iv 20), .ref (ad 21), .ref (ad 22), .ref (ad 23), .ref (ad 24), .ref (ad 25), .ref (ad 26), .ref (ad 27), .ref (ad 28), .int (iv 29), .ref (ad 30), .ref (ad 31), .int (iv 32), .int (iv 33), .int (iv 34), .int (iv 35), .long tl, .int (iv 37), .int (iv 38), .int (iv 39), .int (iv 40), .ref (ad 41), .ref (ad 42), .int (iv 43)])) := hMO.1
  have ha8 : h (ad 8) = some (38, .inl (.int, 14, .inl (fv 8))) := (hMO.2.2 8 (by decide)).1
  have ha41 : h (ad 41) = some (71, .inl (.int, 16, .inl (fv 41))) := (hMO.2.2 41 (by decide)).1
  have ha42 : h (ad 42) = some (72, .inl (.int, 32, .inl (fv 42))) := (hMO.2.2 42 (by decide)).1
  obtain ⟨hiv12, hn2, hn14, hCc⟩ := id hC
  obtain ⟨hiv3, hln, hl60, hlc⟩ := id hL
  have hk24 := hM.2.1
  refine lv_aload_n hx hb d_p15m25_0 rfl (lv_at hl 0 rfl) ?_
  refine lv_iconst (v := nI 0) hx hb d_p15m25_1 (by decide) ?_
  refine pd_put (ty := .int) X w hy0 hz_y rfl 43 (by decide) mT_1182 rfl rfl (by decide +kernel) rfl rfl (Nat.le_of_ble_eq_true rfl) d_p15m25_2 (fun H locs w => ?_)
  have w : pd_w G s H locs (pd_up h y (20, .inr (10, [.ref (ad 0), .ref (ad 1), .ref (ad 2), .int (iv 3), .int (iv 4), .int (iv 5), .ref (ad 6), .ref (ad 7), .ref (ad 8), .ref (ad 9), .ref (ad 10), .ref (ad 11), .int (iv 12), .ref (ad 13), .ref (ad 14), .ref (ad 15), .ref (ad 16), .ref (ad 17), .ref (ad 18), .ref (ad 19), .int (iv 20), .ref (ad 21), .ref (ad 22), .ref (ad 23), .ref (ad 24), .ref (ad 25), .ref (ad 26), .ref (ad 27), .ref (ad 28), .int (iv 29), .ref (ad 30), .ref (ad 31), .int (iv 32), .int (iv 33), .int (iv 34), .int (iv 35), .long tl, .int (iv 37), .int (iv 38), .int (iv 39), .int (iv 40), .ref (ad 41), .ref (ad 42), .int (nI 0)]))) := w
  obtain ⟨h1, u4⟩ : ∃ z, z = pd_up h y (20, .inr (10, [.ref (ad 0), .ref (ad 1), .ref (ad 2), .int (iv 3), .int (iv 4), .int (iv 5), .ref (ad 6), .ref (ad 7), .ref (ad 8), .ref (ad 9), .ref (ad 10), .ref (ad 11), .int (iv 12), .ref (ad 13), .ref (ad 14), .ref (ad 15), .ref (ad 16), .ref (ad 17), .ref (ad 18), .ref (ad 19), .int (iv 20), .ref (ad 21), .ref (ad 22), .ref (ad 23), .ref (ad 24), .ref (ad 25), .ref (ad 26), .ref (ad 27), .ref (ad 28), .int (iv 29), .ref (ad 30), .ref (ad 31), .int (iv 32), .int (iv 33), .int (iv 34), .int (iv 35), .long tl, .int (iv 37), .int (iv 38), .int (iv 39), .int (iv 40), .ref (ad 41), .ref (ad 42), .int (nI 0)])) := ⟨_, rfl⟩
  rw [← u4] at w
  have k2 : pd_kq y h h1 := by rw [u4]; exact pd_up_kq
  have f3 : h1 y = some (20, .inr (10, [.ref (ad 0), .ref (ad 1), .ref (ad 2), .int (iv 3), .int (iv 4), .int (iv 5), .ref (ad 6), .ref (ad 7), .ref (ad 8), .ref (ad 9), .ref (ad 10), .ref (ad 11), .int (iv 12), .ref (ad 13), .ref (ad 14), .ref (ad 15), .ref (ad 16), .ref (ad 17), .ref (ad 18), .ref (ad 19), .int (iv 20), .ref (ad 21), .ref (ad 22), .ref (ad 23), .ref (ad 24), .ref (ad 25), .ref (ad 26), .ref (ad 27), .ref (ad 28), .int (iv 29), .ref (ad 30), .ref (ad 31), .int (iv 32), .int (iv 33), .int (iv 34), .int (iv 35), .long tl, .int (iv 37), .int (iv 38), .int (iv 39), .int (iv 40), .ref (ad 41), .ref (ad 42), .int (nI 0)])) := by rw [u4]; exact pd_up_s _ _ _
  have f5 := k2 _ _ (pd_ne ha8 hy0 (by simp)) ha8
  have f6 := k2 _ _ (pd_ne ha41 hy0 (by simp)) ha41
  have f7 := k2 _ _ (pd_ne ha42 hy0 (by simp)) ha42
  refine lv_iload_n hx hb d_p15m25_5 rfl (lv_at hl 1 rfl) ?_
  refine lv_istore (lv' := [(5, .int (nI c9)), (0, .ref y), (1, .int (nI c9)), (2, .int (nI pe)), (3, .int (nI w9)), (4, .int (nI 0))]) hx hb d_p15m25_6 hl (by decide) rfl (fun ls hl => ?_)
  have mo8 : pd_MO G h1 y ad fv (pd_fu iv 43 (nI 0)) tl := pd_MO.of (ts := [20]) hMO (pd_kq.kx (k2) hy0) f3 (fun j hj => Or.inr ⟨fun z => by first | (simp at z; done) | (simp at z; omega), rfl⟩)
  exact lp_Mod_foundF_8 l G h hMO hC hL hM hK hc9 hiv40 htf hpe hW hw9 hmb X hmn (14 + 1) (some c9) 14 ([]) (fv 41) (fv 42) (nI 0) h1 (pd_kx.mono (us := [20, 71, 72]) (pd_kq.kx (k2) hy0) (by simp)) ((pd_MO.ext (fv2 := pd_fu (pd_fu fv 41 (fv 41)) 42 (fv 42)) (iv2 := pd_fu iv 43 ((nI 0))) mo8 (fun j9 hj9 => by by_cases e9 : j9 = 42; subst e9; rfl; by_cases e8 : j9 = 41; subst e8; rfl; simp only [pd_fu, if_neg e9, if_neg e8]) rfl)) (fun t ht => by cases ht; exact hc9) (fun t ht => by cases ht; omega) (⟨rfl, Nat.zero_le _, fun i hi => absurd hi (Nat.not_lt_zero i)⟩) (List.nodup_nil) (fun z hz => absurd hz List.not_mem_nil) (fun z hz => absurd hz List.not_mem_nil) (rfl) (by omega) _ _ w ls (lv_sub hl [0, 1, 2, 3, 4, 5] rfl)
