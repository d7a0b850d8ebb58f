/-! the reference writes its audit: the row j holds ws so far -/
def gm_Wr (f : Nat → Int32) (j : Nat) (ws : List Nat) (f0 : Nat → Int32) : Prop := (∀ i, i < ws.length → f (96 * j + i) = nI (ws.getD i 0)) ∧ ∀ x, x < 96 * j ∨ 96 * j + 96 ≤ x → f x = f0 x
theorem gm_Wr.app {f f0 : Nat → Int32} {j ch : Nat} {ws : List Nat} (q : gm_Wr f j ws f0) (hl : ws.length < 96) : gm_Wr (upd f (96 * j + ws.length) (nI ch)) j (ws ++ [ch]) f0 := by
  refine ⟨fun i hi => ?_, fun x hx => ?_⟩
  · rw [List.length_append] at hi
    by_cases e : i = ws.length
    · subst e
      rw [pk_us, tx_app_get2 (Nat.le_refl _), Nat.sub_self]
      rfl
    · have h2 : i < ws.length := by simp at hi; omega
      rw [pk_un (by omega), tx_app_get h2]
      exact q.1 i h2
  · rw [pk_un (by omega)]
    exact q.2 x hx
theorem d_p15m40_0 : decode prog_15_method_40_code 0 = .ok (.aload_n 0, 1) := by decide +kernel
theorem d_p15m40_1 : decode prog_15_method_40_code 1 = .ok (.getfield 275, 3) := by decide +kernel
theorem d_p15m40_4 : decode prog_15_method_40_code 4 = .ok (.bipush 12, 2) := by decide +kernel
theorem d_p15m40_6 : decode prog_15_method_40_code 6 = .ok (.irem, 1) := by decide +kernel
theorem d_p15m40_7 : decode prog_15_method_40_code 7 = .ok (.istore_n 2, 1) := by decide +kernel
theorem d_p15m40_8 : decode prog_15_method_40_code 8 = .ok (.aload_n 0, 1) := by decide +kernel
theorem d_p15m40_9 : decode prog_15_method_40_code 9 = .ok (.getfield 87, 3) := by decide +kernel
theorem d_p15m40_12 : decode prog_15_method_40_code 12 = .ok (.bipush 96, 2) := by decide +kernel
theorem d_p15m40_14 : decode prog_15_method_40_code 14 = .ok (.iload_n 2, 1) := by decide +kernel
theorem d_p15m40_15 : decode prog_15_method_40_code 15 = .ok (.imul, 1) := by decide +kernel
theorem d_p15m40_16 : decode prog_15_method_40_code 16 = .ok (.aload_n 0, 1) := by decide +kernel
theorem d_p15m40_17 : decode prog_15_method_40_code 17 = .ok (.getfield 298, 3) := by decide +kernel
theorem d_p15m40_20 : decode prog_15_method_40_code 20 = .ok (.iadd, 1) := by decide +kernel
theorem d_p15m40_21 : decode prog_15_method_40_code 21 = .ok (.iload_n 1, 1) := by decide +kernel
theorem d_p15m40_22 : decode prog_15_method_40_code 22 = .ok (.iastore, 1) := by decide +kernel
theorem d_p15m40_23 : decode prog_15_method_40_code 23 = .ok (.aload_n 0, 1) := by decide +kernel
theorem d_p15m40_24 : decode prog_15_method_40_code 24 = .ok (.dup, 1) := by decide +kernel
theorem d_p15m40_25 : decode prog_15_method_40_code 25 = .ok (.getfield 298, 3) := by decide +kernel
theorem d_p15m40_28 : decode prog_15_method_40_code 28 = .ok (.iconst 1, 1) := by decide +kernel
theorem d_p15m40_29 : decode prog_15_method_40_code 29 = .ok (.iadd, 1) := by decide +kernel
theorem d_p15m40_30 : decode prog_15_method_40_code 30 = .ok (.putfield 298, 3) := by decide +kernel
theorem d_p15m40_33 : decode prog_15_method_40_code 33 = .ok (.return_, 1) := by decide +kernel
abbrev y_Mod_letter : MethodName := ⟨"PolicyDeskModel", "letter", "(I)V"⟩
theorem ok_Mod_letter : pd_ok y_Mod_letter prog_15_method_40_code 3 none 1 := ⟨mT_1440, mT_21, by decide, by decide +kernel⟩
abbrev rm_Mod_letter : Room := { frames := 0, cells := 0, slots := 0, locals := 0 }
set_option maxHeartbeats 4000000 in
set_option maxRecDepth 100000 in
theorem c_Mod_letter (l : Launch) (G : pd_G) (h : pd_H) {y : Nat} {ad : Nat → Nat} {fv : Nat → Nat → Int32} {iv : Nat → Int32} {tl : Int64} {an : Nat} {ws : List Nat} {f0 : Nat → Int32} {ch : Nat} (hMO : pd_MO G h y ad fv iv tl) (hiv32 : iv 32 = nI an) (han : an < 1000) (hiv35 : iv 35 = nI ws.length) (hWr : gm_Wr (fv 30) (an % 12) ws f0) (hl96 : ws.length < 96) : pd_Mv l y_Mod_letter prog_15_method_40_code 3 rm_Mod_letter G h [.ref y, .int (nI ch)] (fun h1 => pd_kx [20, 60] h h1 ∧ ∃ f, pd_MO G h1 y ad (pd_fu fv 30 f) (pd_fu iv 35 (nI (ws ++ [ch]).length)) tl ∧ gm_Wr f (an % 12) (ws ++ [ch]) f0) := by
  refine pd_Mv.of (by decide) (Nat.le_of_ble_eq_true rfl) ?_
  intro p e s m below meth c X hmn w ls hl
  have hx := X.1
  have hb := X.2.1
  have hl : lv_has ls 3 [(0, .ref y), (1, .int (nI ch))] := hl
  have hz_y := hMO.2.1
  have hy0 : h y = some (20, .inr (10, [.ref (ad 0), .ref (ad 1), .ref (ad 2), .int (iv 3), .int (iv 4), .int (iv 5), .ref (ad 6), .ref (ad 7), .ref (ad 8), .ref (ad 9), .ref (ad 10), .ref (ad 11), .int (iv 12), .ref (ad 13), .ref (ad 14), .ref (ad 15), .ref (ad 16), .ref (ad 17), .ref (ad 18), .ref (ad 19), .int (iv 20), .ref (ad 21), .ref (ad 22), .ref (ad 23), .ref (ad 24), .ref (ad 25), .ref (ad 26), .ref (ad 27), .ref (ad 28), .int (iv 29), .ref (ad 30), .ref (ad 31), .int (iv 32), .int (iv 33), .int (iv 34), .int (iv 35), .long tl, .int (iv 37), .int (iv 38), .int (iv 39), .int (iv 40), .ref (ad 41), .ref (ad 42), .int (iv 43)])) := hMO.1
  have ha30 : h (ad 30) = some (60, .inl (.int, 1152, .inl (fv 30))) := (hMO.2.2 30 (by decide)).1
  refine lv_aload_n hx hb d_p15m40_0 rfl (lv_at hl 0 rfl) ?_
  refine pd_get X w hy0 rfl 32 (by decide) mT_1171 rfl rfl d_p15m40_1 ?_
  refine pd_top (v' := .int (nI an)) (congrArg Value.int hiv32) ?_
  refine lv_bipush (v := nI 12) hx hb d_p15m40_4 (by decide) ?_
  refine lv_irem hx hb d_p15m40_6 (by decide) ?_
  refine pd_top (v' := .int (nI (an % 12))) (by rw [pk_rem (by omega) (by omega) (by omega)]) ?_
  refine lv_istore_n (lv' := [(2, .int (nI (an % 12))), (0, .ref y), (1, .int (nI ch))]) hx hb d_p15m40_7 rfl hl (by decide) rfl (fun ls hl => ?_)
  refine lv_aload_n hx hb d_p15m40_8 rfl (lv_at hl 1 rfl) ?_
  refine pd_get X w hy0 rfl 30 (by decide) mT_1169 rfl rfl d_p15m40_9 ?_
  refine lv_bipush (v := nI 96) hx hb d_p15m40_12 (by decide) ?_
  refine lv_iload_n hx hb d_p15m40_14 rfl (lv_at hl 0 rfl) ?_
  refine pd_imul hx hb d_p15m40_15 ?_
  refine lv_aload_n hx hb d_p15m40_16 rfl (lv_at hl 1 rfl) ?_
  refine pd_get X w hy0 rfl 35 (by decide) mT_1174 rfl rfl d_p15m40_17 ?_
  refine pd_top (v' := .int (nI ws.length)) (congrArg Value.int hiv35) ?_
  refine pd_iadd hx hb d_p15m40_20 ?_
  refine lv_iload_n hx hb d_p15m40_21 rfl (lv_at hl 2 rfl) ?_
  refine pd_iast X w ha30 (hMO.2.2 30 (by decide)).2 (by omega) (by omega) d_p15m40_22 (fun H locs w => ?_)
  have w : pd_w G s H locs (pd_up h (ad 30) (60, .inl (.int, 1152, .inl (upd (fv 30) ((96 * (an % 12)) + ws.length) (nI ch))))) := w
  obtain ⟨h1, u4⟩ : ∃ z, z = pd_up h (ad 30) (60, .inl (.int, 1152, .inl (upd (fv 30) ((96 * (an % 12)) + ws.length) (nI ch)))) := ⟨_, rfl⟩
  rw [← u4] at w
  have k2 : pd_kq (ad 30) h h1 := by rw [u4]; exact pd_up_kq
  have f3 : h1 (ad 30) = some (60, .inl (.int, 1152, .inl (upd (fv 30) ((96 * (an % 12)) + ws.length) (nI ch)))) := by rw [u4]; exact pd_up_s _ _ _
  have f5 := k2 _ _ (pd_ne hy0 ha30 (by simp)) hy0
  refine lv_aload_n hx hb d_p15m40_23 rfl (lv_at hl 1 rfl) ?_
  refine lv_dup hx hb d_p15m40_24 rfl ?_
  refine pd_get X w f5 rfl 35 (by decide) mT_1174 rfl rfl d_p15m40_25 ?_
  refine pd_top (v' := .int (nI ws.length)) (congrArg Value.int hiv35) ?_
  refine lv_iconst (v := nI 1) hx hb d_p15m40_28 (by decide) ?_
  refine pd_iadd hx hb d_p15m40_29 ?_
  refine pd_put (ty := .int) X w f5 hz_y rfl 35 (by decide) mT_1174 rfl rfl (by decide +kernel) rfl rfl (Nat.le_of_ble_eq_true rfl) d_p15m40_30 (fun H locs w => ?_)
  have w : pd_w G s H locs (pd_up h1 y (20, .inr (10, [.ref (ad 0), .ref (ad 1), .ref (ad 2), .int (iv 3), .int (iv 4), .int (iv 5), .ref (ad 6), .ref (ad 7), .ref (ad 8), .ref (ad 9), .ref (ad 10), .ref (ad 11), .int (iv 12), .ref (ad 13), .ref (ad 14), .ref (ad 15), .ref (ad 16), .ref (ad 17), .ref (ad 18), .ref (ad 19), .int (iv 20), .ref (ad 21), .ref (ad 22), .ref (ad 23), .ref (ad 24), .ref (ad 25), .ref (ad 26), .ref (ad 27), .ref (ad 28), .int (iv 29), .ref (ad 30), .ref (ad 31), .int (iv 32), .int (iv 33), .int (iv 34), .int (nI (ws.length + 1)), .long tl, .int (iv 37), .int (iv 38), .int (iv 39), .int (iv 40), .ref (ad 41), .ref (ad 42), .int (iv 43)]))) := w
  obtain ⟨h6, u9⟩ : ∃ z, z = pd_up h1 y (20, .inr (10, [.ref (ad 0), .ref (ad 1), .ref (ad 2), .int (iv 3), .int (iv 4), .int (iv 5), .ref (ad 6), .ref (ad 7), .ref (ad 8), .ref (ad 9), .ref (ad 10), .ref (ad 11), .int (iv 12), .ref (ad 13), .ref (ad 14), .ref (ad 15), .ref (ad 16), .ref (ad 17), .ref (ad 18), .ref (ad 19), .int (iv 20), .ref (ad 21), .ref (ad 22), .ref (ad 23), .ref (ad 24), .ref (ad 25), .ref (ad 26), .ref (ad 27), .ref (ad 28), .int (iv 29), .ref (ad 30), .ref (ad 31), .int (iv 32), .int (iv 33), .int (iv 34), .int (nI (ws.length + 1)), .long tl, .int (iv 37), .int (iv 38), .int (iv 39), .int (iv 40), .ref (ad 41), .ref (ad 42), .int (iv 43)])) := ⟨_, rfl⟩
  rw [← u9] at w
  have k7 : pd_kq y h1 h6 := by rw [u9]; exact pd_up_kq
  have f8 : h6 y = some (20, .inr (10, [.ref (ad 0), .ref (ad 1), .ref (ad 2), .int (iv 3), .int (iv 4), .int (iv 5), .ref (ad 6), .ref (ad 7), .ref (ad 8), .ref (ad 9), .ref (ad 10), .ref (ad 11), .int (iv 12), .ref (ad 13), .ref (ad 14), .ref (ad 15), .ref (ad 16), .ref (ad 17), .ref (ad 18), .ref (ad 19), .int (iv 20), .ref (ad 21), .ref (ad 22), .ref (ad 23), .ref (ad 24), .ref (ad 25), .ref (ad 26), .ref (ad 27), .ref (ad 28), .int (iv 29), .ref (ad 30), .ref (ad 31), .int (iv 32), .int (iv 33), .int (iv 34), .int (nI (ws.length + 1)), .long tl, .int (iv 37), .int (iv 38), .int (iv 39), .int (iv 40), .ref (ad 41), .ref (ad 42), .int (iv 43)])) := by rw [u9]; exact pd_up_s _ _ _
  have f10 := k7 _ _ (pd_ne f3 f5 (by simp)) f3
  exact pd_vret X w ⟨pd_kx.mono (us := [20, 60]) (pd_kx.tr (pd_kx.mono (us := [60, 20]) (pd_kq.kx (k2) ha30) (by simp)) (pd_kx.mono (us := [60, 20]) (pd_kq.kx (k7) f5) (by simp))) (by simp), _, (by rw [show (ws ++ [ch]).length = ws.length + 1 by simp]; exact (pd_MO.of (fv2 := pd_fu fv 30 (upd (fv 30) ((96 * (an % 12)) + ws.length) (nI ch))) (iv2 := pd_fu iv 35 (nI (ws.length + 1))) (tl2 := tl) (ts := [60, 20]) hMO (pd_kx.tr (pd_kx.mono (us := [60, 20]) (pd_kq.kx (k2) ha30) (by simp)) (pd_kx.mono (us := [60, 20]) (pd_kq.kx (k7) f5) (by simp))) f8 (fun j hj => if e30 : j = 30 then by subst e30; exact Or.inl f10 else Or.inr ⟨fun z => by first | (simp at z; done) | (simp at z; omega), by rw [pd_fu_n e30]⟩))), gm_Wr.app hWr hl96⟩ (by decide) (by decide) d_p15m40_33
theorem d_p15m41_0 : decode prog_15_method_41_code 0 = .ok (.iconst 1, 1) := by decide +kernel
theorem d_p15m41_1 : decode prog_15_method_41_code 1 = .ok (.istore_n 2, 1) := by decide +kernel
theorem d_p15m41_2 : decode prog_15_method_41_code 2 = .ok (.iload_n 1, 1) := by decide +kernel
theorem d_p15m41_3 : decode prog_15_method_41_code 3 = .ok (.iload_n 2, 1) := by decide +kernel
theorem d_p15m41_4 : decode prog_15_method_41_code 4 = .ok (.idiv, 1) := by decide +kernel
theorem d_p15m41_5 : decode prog_15_method_41_code 5 = .ok (.bipush 9, 2) := by decide +kernel
theorem d_p15m41_7 : decode prog_15_method_41_code 7 = .ok (.if_icmp .le 11, 3) := by decide +kernel
theorem d_p15m41_10 : decode prog_15_method_41_code 10 = .ok (.iload_n 2, 1) := by decide +kernel
theorem d_p15m41_11 : decode prog_15_method_41_code 11 = .ok (.bipush 10, 2) := by decide +kernel
theorem d_p15m41_13 : decode prog_15_method_41_code 13 = .ok (.imul, 1) := by decide +kernel
theorem d_p15m41_14 : decode prog_15_method_41_code 14 = .ok (.istore_n 2, 1) := by decide +kernel
theorem d_p15m41_15 : decode prog_15_method_41_code 15 = .ok (.goto (-13), 3) := by decide +kernel
theorem d_p15m41_18 : decode prog_15_method_41_code 18 = .ok (.iload_n 2, 1) := by decide +kernel
theorem d_p15m41_19 : decode prog_15_method_41_code 19 = .ok (.istore_n 3, 1) := by decide +kernel
theorem d_p15m41_20 : decode prog_15_method_41_code 20 = .ok (.iload_n 3, 1) := by decide +kernel
theorem d_p15m41_21 : decode prog_15_method_41_code 21 = .ok (.ifCond .le 24, 3) := by decide +kernel
theorem d_p15m41_24 : decode prog_15_method_41_code 24 = .ok (.aload_n 0, 1) := by decide +kernel
theorem d_p15m41_25 : decode prog_15_method_41_code 25 = .ok (.bipush 48, 2) := by decide +kernel
theorem d_p15m41_27 : decode prog_15_method_41_code 27 = .ok (.iload_n 1, 1) := by decide +kernel
theorem d_p15m41_28 : decode prog_15_method_41_code 28 = .ok (.iload_n 3, 1) := by decide +kernel
theorem d_p15m41_29 : decode prog_15_method_41_code 29 = .ok (.idiv, 1) := by decide +kernel
theorem d_p15m41_30 : decode prog_15_method_41_code 30 = .ok (.bipush 10, 2) := by decide +kernel
theorem d_p15m41_32 : decode prog_15_method_41_code 32 = .ok (.irem, 1) := by decide +kernel
theorem d_p15m41_33 : decode prog_15_method_41_code 33 = .ok (.iadd, 1) := by decide +kernel
theorem d_p15m41_34 : decode prog_15_method_41_code 34 = .ok (.invokevirtual 301, 3) := by decide +kernel
theorem d_p15m41_37 : decode prog_15_method_41_code 37 = .ok (.iload_n 3, 1) := by decide +kernel
theorem d_p15m41_38 : decode prog_15_method_41_code 38 = .ok (.bipush 10, 2) := by decide +kernel
theorem d_p15m41_40 : decode prog_15_method_41_code 40 = .ok (.idiv, 1) := by decide +kernel
theorem d_p15m41_41 : decode prog_15_method_41_code 41 = .ok (.istore_n 3, 1) := by decide +kernel
theorem d_p15m41_42 : decode prog_15_method_41_code 42 = .ok (.goto (-22), 3) := by decide +kernel
theorem d_p15m41_45 : decode prog_15_method_41_code 45 = .ok (.return_, 1) := by decide +kernel
abbrev y_Mod_digits : MethodName := ⟨"PolicyDeskModel", "digits", "(I)V"⟩
theorem ok_Mod_digits : pd_ok y_Mod_digits prog_15_method_41_code 4 none 1 := ⟨mT_1436, mT_21, by decide, by decide +kernel⟩
abbrev rm_Mod_digits : Room := { frames := 1, cells := 0, slots := 0, locals := 22 }
set_option maxHeartbeats 4000000 in
set_option maxRecDepth 100000 in
theorem c_Mod_digits (l : Launch) (G : pd_G) (h : pd_H) {y : Nat} {ad : Nat → Nat} {fv : Nat → Nat → Int32} {iv : Nat → Int32} {tl : Int64} {an : Nat} {ws : List Nat} {f0 : Nat → Int32} {x : Nat} (hMO : pd_MO G h y ad fv iv tl) (hiv32 : iv 32 = nI an) (han : an < 1000) (hiv35 : iv 35 = nI ws.length) (hWr : gm_Wr (fv 30) (an % 12) ws f0) (hx9 : x < 1000) (hl93 : ws.length ≤ 90) : pd_Mv l y_Mod_digits prog_15_method_41_code 4 rm_Mod_digits G h [.ref y, .int (nI x)] (fun h1 => pd_kx [20, 60] h h1 ∧ ∃ f, pd_MO G h1 y ad (pd_fu fv 30 f) (pd_fu iv 35 (nI (ws ++ gr_dig x).length)) tl ∧ gm_Wr f (an % 12) (ws ++ gr_dig x) f0) := by
  refine pd_Mv.of (by decide) (Nat.le_of_ble_eq_true rfl) ?_
  intro p e s m below meth c X hmn w ls hl
  have hx := X.1
  have hb := X.2.1
  have hl : lv_has ls 4 [(0, .ref y), (1, .int (nI x))] := hl
  have hz_y := hMO.2.1
  have hy0 : h y = some (20, .inr (10, [.ref (ad 0), .ref (ad 1), .ref (ad 2), .int (iv 3), .int (iv 4), .int (iv 5), .ref (ad 6), .ref (ad 7), .ref (ad 8), .ref (ad 9), .ref (ad 10), .ref (ad 11), .int (iv 12), .ref (ad 13), .ref (ad 14), .ref (ad 15), .ref (ad 16), .ref (ad 17), .ref (ad 18), .ref (ad 19), .int (iv 20), .ref (ad 21), .ref (ad 22), .ref (ad 23), .ref (ad 24), .ref (ad 25), .ref (ad 26), .ref (ad 27), .ref (ad 28), .int (iv 29), .ref (ad 30), .ref (ad 31), .int (iv 32), .int (iv 33), .int (iv 34), .int (iv 35), .long tl, .int (iv 37), .int (iv 38), .int (iv 39), .int (iv 40), .ref (ad 41), .ref (ad 42), .int (iv 43)])) := hMO.1
  have ha30 : h (ad 30) = some (60, .inl (.int, 1152, .inl (fv 30))) := (hMO.2.2 30 (by decide)).1
  refine lv_iconst (v := nI 1) hx hb d_p15m41_0 (by decide) ?_
  refine lv_istore_n (lv' := [(2, .int (nI 1)), (0, .ref y), (1, .int (nI x))]) hx hb d_p15m41_1 rfl hl (by decide) rfl (fun ls hl => ?_)
  refine lv_iload_n hx hb d_p15m41_2 rfl (lv_at hl 2 rfl) ?_
  refine lv_iload_n hx hb d_p15m41_3 rfl (lv_at hl 0 rfl) ?_
  refine lv_idiv hx hb d_p15m41_4 (by decide) ?_
  refine pd_top (v' := .int (nI (x / 1))) (by rw [pk_div (by omega) (by omega) (by omega)]) ?_
  refine lv_bipush (v := nI 9) hx hb d_p15m41_5 (by decide) ?_
  refine pd_jle (tgt := 18) hx hb d_p15m41_7 (by decide) (by omega) (by omega) (fun q1 => ?_) (fun q1 => ?_)
  · -- taken: 18
    refine lv_iload_n hx hb d_p15m41_18 rfl (lv_at hl 0 rfl) ?_
    refine lv_istore_n (lv' := [(3, .int (nI 1)), (2, .int (nI 1)), (0, .ref y), (1, .int (nI x))]) hx hb d_p15m41_19 rfl hl (by decide) rfl (fun ls hl => ?_)
    refine lv_iload_n hx hb d_p15m41_20 rfl (lv_at hl 0 rfl) ?_
    refine pd_zle (tgt := 45) hx hb d_p15m41_21 (by decide) (by decide) (fun q => absurd q (by decide)) (fun _ => ?_)
    refine lv_aload_n hx hb d_p15m41_24 rfl (lv_at hl 2 rfl) ?_
    refine lv_bipush (v := nI 48) hx hb d_p15m41_25 (by decide) ?_
    refine lv_iload_n hx hb d_p15m41_27 rfl (lv_at hl 3 rfl) ?_
    refine lv_iload_n hx hb d_p15m41_28 rfl (lv_at hl 0 rfl) ?_
    refine lv_idiv hx hb d_p15m41_29 (by decide) ?_
    refine pd_top (v' := .int (nI (x / 1))) (by rw [pk_div (by omega) (by omega) (by omega)]) ?_
    refine lv_bipush (v := nI 10) hx hb d_p15m41_30 (by decide) ?_
    refine lv_irem hx hb d_p15m41_32 (by decide) ?_
    refine pd_top (v' := .int (nI ((x / 1) % 10))) (by rw [pk_rem (by omega) (by omega) (by omega)]) ?_
    refine pd_iadd hx hb d_p15m41_33 ?_
    refine pd_cVv (a := y) (As := [.int (nI (48 + ((x / 1) % 10)))]) (rest := []) X w hy0 rfl (c_Mod_letter l G h (an := an) (f0 := f0) (ws := ws) (ad := ad) (fv := fv) (iv := iv) (tl := tl) hMO (by assumption) (by omega) (by first | rfl | assumption) (by assumption) (by (try simp only [List.length_append, List.length_cons, List.length_nil, List.length_map, List.length_range, List.length_take]); omega)) ok_Mod_letter ⟨mT_1439, sT_47⟩ mT_1437 ⟨by decide, by decide⟩ rfl hl.1 rfl (Nat.le_of_ble_eq_true rfl) d_p15m41_34 ⟨by decide, by decide⟩ (fun h4 H locs hp5 w => ?_)
    refine W.widen (k := 0) (n := 0) (by decide) (by decide) ?_
    obtain ⟨k6, f7, f8, f9⟩ := hp5
    have mo10 : pd_MO G h4 y ad (pd_fu fv 30 f7) (pd_fu iv 35 (nI ((ws ++ [48 + ((x / 1) % 10)]).length))) tl := pd_MO.ext f8 (fun j9 hj9 => by by_cases e930 : j9 = 30; subst e930; rfl; simp only [pd_fu, if_neg e930]) rfl
    have hy11 : h4 y = some (20, .inr (10, [.ref (ad 0), .ref (ad 1), .ref (ad 2), .int (iv 3), .int (iv 4), .int (iv 5), .ref (ad 6), .ref (ad 7), .ref (ad 8), .ref (ad 9), .ref (ad 10), .ref (ad 11), .int (iv 12), .ref (ad 13), .ref (ad 14), .ref (ad 15), .ref (ad 16), .ref (ad 17), .ref (ad 18), .ref (ad 19), .int (iv 20), .ref (ad 21), .ref (ad 22), .ref (ad 23), .ref (ad 24), .ref (ad 25), .ref (ad 26), .ref (ad 27), .ref (ad 28), .int (iv 29), .ref (ad 30), .ref (ad 31), .int (iv 32), .int (iv 33), .int (iv 34), .int (nI ((ws ++ [48 + ((x / 1) % 10)]).length)), .long tl, .int (iv 37), .int (iv 38), .int (iv 39), .int (iv 40), .ref (ad 41), .ref (ad 42), .int (iv 43)])) := mo10.1
    have ha12 : h4 (ad 30) = some (60, .inl (.int, 1152, .inl (f7))) := (mo10.2.2 30 (by decide)).1
    refine lv_iload_n hx hb d_p15m41_37 rfl (lv_at hl 0 rfl) ?_
    refine lv_bipush (v := nI 10) hx hb d_p15m41_38 (by decide) ?_
    refine lv_idiv hx hb d_p15m41_40 (by decide) ?_
    refine pd_top (v' := .int (nI 0)) (by rw [pk_div (by omega) (by omega) (by omega)]) ?_
    refine lv_istore_n (lv' := [(3, .int (nI 0)), (2, .int (nI 1)), (0, .ref y), (1, .int (nI x))]) hx hb d_p15m41_41 rfl hl (by decide) rfl (fun ls hl => ?_)
    refine lv_goto (tgt := 20) hx hb d_p15m41_42 (by decide) ?_
    refine lv_iload_n hx hb d_p15m41_20 rfl (lv_at hl 0 rfl) ?_
    refine pd_zle (tgt := 45) hx hb d_p15m41_21 (by decide) (by decide) (fun _ => ?_) (fun q => absurd q (by decide))
    have hdg : ws ++ gr_dig x = ws ++ [48 + ((x / 1) % 10)] := by rw [gr_dig_1 (by omega), show 48 + ((x / 1) % 10) = 48 + x by omega]
    exact pd_vret X w ⟨k6, _, (by rw [hdg]; exact mo10), (by rw [hdg]; exact f9)⟩ (by decide) (by decide) d_p15m41_45
  · -- not taken: 10
    refine lv_iload_n hx hb d_p15m41_10 rfl (lv_at hl 0 rfl) ?_
    refine lv_bipush (v := nI 10) hx hb d_p15m41_11 (by decide) ?_
    refine pd_imul hx hb d_p15m41_13 ?_
    refine lv_istore_n (lv' := [(2, .int (nI 10)), (0, .ref y), (1, .int (nI x))]) hx hb d_p15m41_14 rfl hl (by decide) rfl (fun ls hl => ?_)
    refine lv_goto (tgt := 2) hx hb d_p15m41_15 (by decide) ?_
    refine lv_iload_n hx hb d_p15m41_2 rfl (lv_at hl 2 rfl) ?_
    refine lv_iload_n hx hb d_p15m41_3 rfl (lv_at hl 0 rfl) ?_
    refine lv_idiv hx hb d_p15m41_4 (by decide) ?_
    refine pd_top (v' := .int (nI (x / 10))) (by rw [pk_div (by omega) (by omega) (by omega)]) ?_
    refine lv_bipush (v := nI 9) hx hb d_p15m41_5 (by decide) ?_
    refine pd_jle (tgt := 18) hx hb d_p15m41_7 (by decide) (by omega) (by omega) (fun q14 => ?_) (fun q14 => ?_)
    · -- taken: 18
      refine lv_iload_n hx hb d_p15m41_18 rfl (lv_at hl 0 rfl) ?_
      refine lv_istore_n (lv' := [(3, .int (nI 10)), (2, .int (nI 10)), (0, .ref y), (1, .int (nI x))]) hx hb d_p15m41_19 rfl hl (by decide) rfl (fun ls hl => ?_)
      refine lv_iload_n hx hb d_p15m41_20 rfl (lv_at hl 0 rfl) ?_
      refine pd_zle (tgt := 45) hx hb d_p15m41_21 (by decide) (by decide) (fun q => absurd q (by decide)) (fun _ => ?_)
      refine lv_aload_n hx hb d_p15m41_24 rfl (lv_at hl 2 rfl) ?_
      refine lv_bipush (v := nI 48) hx hb d_p15m41_25 (by decide) ?_
      refine lv_iload_n hx hb d_p15m41_27 rfl (lv_at hl 3 rfl) ?_
      refine lv_iload_n hx hb d_p15m41_28 rfl (lv_at hl 0 rfl) ?_
      refine lv_idiv hx hb d_p15m41_29 (by decide) ?_
      refine pd_top (v' := .int (nI (x / 10))) (by rw [pk_div (by omega) (by omega) (by omega)]) ?_
      refine lv_bipush (v := nI 10) hx hb d_p15m41_30 (by decide) ?_
      refine lv_irem hx hb d_p15m41_32 (by decide) ?_
      refine pd_top (v' := .int (nI ((x / 10) % 10))) (by rw [pk_rem (by omega) (by omega) (by omega)]) ?_
      refine pd_iadd hx hb d_p15m41_33 ?_
      refine pd_cVv (a := y) (As := [.int (nI (48 + ((x / 10) % 10)))]) (rest := []) X w hy0 rfl (c_Mod_letter l G h (an := an) (f0 := f0) (ws := ws) (ad := ad) (fv := fv) (iv := iv) (tl := tl) hMO (by assumption) (by omega) (by first | rfl | assumption) (by assumption) (by (try simp only [List.length_append, List.length_cons, List.length_nil, List.length_map, List.length_range, List.length_take]); omega)) ok_Mod_letter ⟨mT_1439, sT_47⟩ mT_1437 ⟨by decide, by decide⟩ rfl hl.1 rfl (Nat.le_of_ble_eq_true rfl) d_p15m41_34 ⟨by decide, by decide⟩ (fun h17 H locs hp18 w => ?_)
      refine W.widen (k := 0) (n := 0) (by decide) (by decide) ?_
      obtain ⟨k19, f20, f21, f22⟩ := hp18
      have mo23 : pd_MO G h17 y ad (pd_fu fv 30 f20) (pd_fu iv 35 (nI ((ws ++ [48 + ((x / 10) % 10)]).length))) tl := pd_MO.ext f21 (fun j9 hj9 => by by_cases e930 : j9 = 30; subst e930; rfl; simp only [pd_fu, if_neg e930]) rfl
      have hy24 : h17 y = some (20, .inr (10, [.ref (ad 0), .ref (ad 1), .ref (ad 2), .int (iv 3), .int (iv 4), .int (iv 5), .ref (ad 6), .ref (ad 7), .ref (ad 8), .ref (ad 9), .ref (ad 10), .ref (ad 11), .int (iv 12), .ref (ad 13), .ref (ad 14), .ref (ad 15), .ref (ad 16), .ref (ad 17), .ref (ad 18), .ref (ad 19), .int (iv 20), .ref (ad 21), .ref (ad 22), .ref (ad 23), .ref (ad 24), .ref (ad 25), .ref (ad 26), .ref (ad 27), .ref (ad 28), .int (iv 29), .ref (ad 30), .ref (ad 31), .int (iv 32), .int (iv 33), .int (iv 34), .int (nI ((ws ++ [48 + ((x / 10) % 10)]).length)), .long tl, .int (iv 37), .int (iv 38), .int (iv 39), .int (iv 40), .ref (ad 41), .ref (ad 42), .int (iv 43)])) := mo23.1
      have ha25 : h17 (ad 30) = some (60, .inl (.int, 1152, .inl (f20))) := (mo23.2.2 30 (by decide)).1
      refine lv_iload_n hx hb d_p15m41_37 rfl (lv_at hl 0 rfl) ?_
      refine lv_bipush (v := nI 10) hx hb d_p15m41_38 (by decide) ?_
      refine lv_idiv hx hb d_p15m41_40 (by decide) ?_
      refine pd_top (v' := .int (nI 1)) (by rw [pk_div (by omega) (by omega) (by omega)]) ?_
      refine lv_istore_n (lv' := [(3, .int (nI 1)), (2, .int (nI 10)), (0, .ref y), (1, .int (nI x))]) hx hb d_p15m41_41 rfl hl (by decide) rfl (fun ls hl => ?_)
      refine lv_goto (tgt := 20) hx hb d_p15m41_42 (by decide) ?_
      refine lv_iload_n hx hb d_p15m41_20 rfl (lv_at hl 0 rfl) ?_
      refine pd_zle (tgt := 45) hx hb d_p15m41_21 (by decide) (by decide) (fun q => absurd q (by decide)) (fun _ => ?_)
      refine lv_aload_n hx hb d_p15m41_24 rfl (lv_at hl 2 rfl) ?_
      refine lv_bipush (v := nI 48) hx hb d_p15m41_25 (by decide) ?_
      refine lv_iload_n hx hb d_p15m41_27 rfl (lv_at hl 3 rfl) ?_
      refine lv_iload_n hx hb d_p15m41_28 rfl (lv_at hl 0 rfl) ?_
      refine lv_idiv hx hb d_p15m41_29 (by decide) ?_
      refine pd_top (v' := .int (nI (x / 1))) (by rw [pk_div (by omega) (by omega) (by omega)]) ?_
      refine lv_bipush (v := nI 10) hx hb d_p15m41_30 (by decide) ?_
      refine lv_irem hx hb d_p15m41_32 (by decide) ?_
      refine pd_top (v' := .int (nI ((x / 1) % 10))) (by rw [pk_rem (by omega) (by omega) (by omega)]) ?_
      refine pd_iadd hx hb d_p15m41_33 ?_
      refine pd_cVv (a := y) (As := [.int (nI (48 + ((x / 1) % 10)))]) (rest := []) X w hy24 rfl (c_Mod_letter l G h17 (an := an) (f0 := f0) (ws := ws ++ [48 + ((x / 10) % 10)]) (ad := ad) (fv := pd_fu fv 30 f20) (iv := pd_fu iv 35 (nI ((ws ++ [48 + ((x / 10) % 10)]).length))) (tl := tl) mo23 (by assumption) (by omega) (by first | rfl | assumption) (by assumption) (by (try simp only [List.length_append, List.length_cons, List.length_nil, List.length_map, List.length_range, List.length_take]); omega)) ok_Mod_letter ⟨mT_1439, sT_47⟩ mT_1437 ⟨by decide, by decide⟩ rfl hl.1 rfl (Nat.le_of_ble_eq_true rfl) d_p15m41_34 ⟨by decide, by decide⟩ (fun h28 H locs hp29 w => ?_)
      refine W.widen (k := 0) (n := 0) (by decide) (by decide) ?_
      obtain ⟨k30, f31, f32, f33⟩ := hp29
      have mo34 : pd_MO G h28 y ad (pd_fu fv 30 f31) (pd_fu iv 35 (nI ((ws ++ [48 + ((x / 10) % 10)] ++ [48 + ((x / 1) % 10)]).length))) tl := pd_MO.ext f32 (fun j9 hj9 => by by_cases e930 : j9 = 30; subst e930; rfl; simp only [pd_fu, if_neg e930]) rfl
      have hy35 : h28 y = some (20, .inr (10, [.ref (ad 0), .ref (ad 1), .ref (ad 2), .int (iv 3), .int (iv 4), .int (iv 5), .ref (ad 6), .ref (ad 7), .ref (ad 8), .ref (ad 9), .ref (ad 10), .ref (ad 11), .int (iv 12), .ref (ad 13), .ref (ad 14), .ref (ad 15), .ref (ad 16), .ref (ad 17), .ref (ad 18), .ref (ad 19), .int (iv 20), .ref (ad 21), .ref (ad 22), .ref (ad 23), .ref (ad 24), .ref (ad 25), .ref (ad 26), .ref (ad 27), .ref (ad 28), .int (iv 29), .ref (ad 30), .ref (ad 31), .int (iv 32), .int (iv 33), .int (iv 34), .int (nI ((ws ++ [48 + ((x / 10) % 10)] ++ [48 + ((x / 1) % 10)]).length)), .long tl, .int (iv 37), .int (iv 38), .int (iv 39), .int (iv 40), .ref (ad 41), .ref (ad 42), .int (iv 43)])) := mo34.1
      have ha36 : h28 (ad 30) = some (60, .inl (.int, 1152, .inl (f31))) := (mo34.2.2 30 (by decide)).1
      refine lv_iload_n hx hb d_p15m41_37 rfl (lv_at hl 0 rfl) ?_
      refine lv_bipush (v := nI 10) hx hb d_p15m41_38 (by decide) ?_
      refine lv_idiv hx hb d_p15m41_40 (by decide) ?_
      refine pd_top (v' := .int (nI 0)) (by rw [pk_div (by omega) (by omega) (by omega)]) ?_
      refine lv_istore_n (lv' := [(3, .int (nI 0)), (2, .int (nI 10)), (0, .ref y), (1, .int (nI x))]) hx hb d_p15m41_41 rfl hl (by decide) rfl (fun ls hl => ?_)
      refine lv_goto (tgt := 20) hx hb d_p15m41_42 (by decide) ?_
      refine lv_iload_n hx hb d_p15m41_20 rfl (lv_at hl 0 rfl) ?_
      refine pd_zle (tgt := 45) hx hb d_p15m41_21 (by decide) (by decide) (fun _ => ?_) (fun q => absurd q (by decide))
      have hdg : ws ++ gr_dig x = ws ++ [48 + ((x / 10) % 10)] ++ [48 + ((x / 1) % 10)] := by rw [gr_dig_2 (by omega) (by omega), show 48 + ((x / 10) % 10) = 48 + x / 10 by omega, show 48 + ((x / 1) % 10) = 48 + x % 10 by omega, List.append_assoc]; rfl
      exact pd_vret X w ⟨pd_kx.tr (k19) (k30), _, (by rw [hdg]; exact mo34), (by rw [hdg]; exact f33)⟩ (by decide) (by decide) d_p15m41_45
    · -- not taken: 10
      refine lv_iload_n hx hb d_p15m41_10 rfl (lv_at hl 0 rfl) ?_
      refine lv_bipush (v := nI 10) hx hb d_p15m41_11 (by decide) ?_
      refine pd_imul hx hb d_p15m41_13 ?_
      refine lv_istore_n (lv' := [(2, .int (nI 100)), (0, .ref y), (1, .int (nI x))]) hx hb d_p15m41_14 rfl hl (by decide) rfl (fun ls hl => ?_)
      refine lv_goto (tgt := 2) hx hb d_p15m41_15 (by decide) ?_
      refine lv_iload_n hx hb d_p15m41_2 rfl (lv_at hl 2 rfl) ?_
      refine lv_iload_n hx hb d_p15m41_3 rfl (lv_at hl 0 rfl) ?_
      refine lv_idiv hx hb d_p15m41_4 (by decide) ?_
      refine pd_top (v' := .int (nI (x / 100))) (by rw [pk_div (by omega) (by omega) (by omega)]) ?_
      refine lv_bipush (v := nI 9) hx hb d_p15m41_5 (by decide) ?_
      refine pd_jle (tgt := 18) hx hb d_p15m41_7 (by decide) (by omega) (by omega) (fun q38 => ?_) (fun q38 => ?_)
      · -- taken: 18
        refine lv_iload_n hx hb d_p15m41_18 rfl (lv_at hl 0 rfl) ?_
        refine lv_istore_n (lv' := [(3, .int (nI 100)), (2, .int (nI 100)), (0, .ref y), (1, .int (nI x))]) hx hb d_p15m41_19 rfl hl (by decide) rfl (fun ls hl => ?_)
        refine lv_iload_n hx hb d_p15m41_20 rfl (lv_at hl 0 rfl) ?_
        refine pd_zle (tgt := 45) hx hb d_p15m41_21 (by decide) (by decide) (fun q => absurd q (by decide)) (fun _ => ?_)
        refine lv_aload_n hx hb d_p15m41_24 rfl (lv_at hl 2 rfl) ?_
        refine lv_bipush (v := nI 48) hx hb d_p15m41_25 (by decide) ?_
        refine lv_iload_n hx hb d_p15m41_27 rfl (lv_at hl 3 rfl) ?_
        refine lv_iload_n hx hb d_p15m41_28 rfl (lv_at hl 0 rfl) ?_
        refine lv_idiv hx hb d_p15m41_29 (by decide) ?_
        refine pd_top (v' := .int (nI (x / 100))) (by rw [pk_div (by omega) (by omega) (by omega)]) ?_
        refine lv_bipush (v := nI 10) hx hb d_p15m41_30 (by decide) ?_
        refine lv_irem hx hb d_p15m41_32 (by decide) ?_
        refine pd_top (v' := .int (nI ((x / 100) % 10))) (by rw [pk_rem (by omega) (by omega) (by omega)]) ?_
        refine pd_iadd hx hb d_p15m41_33 ?_
        refine pd_cVv (a := y) (As := [.int (nI (48 + ((x / 100) % 10)))]) (rest := []) X w hy0 rfl (c_Mod_letter l G h (an := an) (f0 := f0) (ws := ws) (ad := ad) (fv := fv) (iv := iv) (tl := tl) hMO (by assumption) (by omega) (by first | rfl | assumption) (by assumption) (by (try simp only [List.length_append, List.length_cons, List.length_nil, List.length_map, List.length_range, List.length_take]); omega)) ok_Mod_letter ⟨mT_1439, sT_47⟩ mT_1437 ⟨by decide, by decide⟩ rfl hl.1 rfl (Nat.le_of_ble_eq_true rfl) d_p15m41_34 ⟨by decide, by decide⟩ (fun h41 H locs hp42 w => ?_)
        refine W.widen (k := 0) (n := 0) (by decide) (by decide) ?_
        obtain ⟨k43, f44, f45, f46⟩ := hp42
        have mo47 : pd_MO G h41 y ad (pd_fu fv 30 f44) (pd_fu iv 35 (nI ((ws ++ [48 + ((x / 100) % 10)]).length))) tl := pd_MO.ext f45 (fun j9 hj9 => by by_cases e930 : j9 = 30; subst e930; rfl; simp only [pd_fu, if_neg e930]) rfl
        have hy48 : h41 y = some (20, .inr (10, [.ref (ad 0), .ref (ad 1), .ref (ad 2), .int (iv 3), .int (iv 4), .int (iv 5), .ref (ad 6), .ref (ad 7), .ref (ad 8), .ref (ad 9), .ref (ad 10), .ref (ad 11), .int (iv 12), .ref (ad 13), .ref (ad 14), .ref (ad 15), .ref (ad 16), .ref (ad 17), .ref (ad 18), .ref (ad 19), .int (iv 20), .ref (ad 21), .ref (ad 22), .ref (ad 23), .ref (ad 24), .ref (ad 25), .ref (ad 26), .ref (ad 27), .ref (ad 28), .int (iv 29), .ref (ad 30), .ref (ad 31), .int (iv 32), .int (iv 33), .int (iv 34), .int (nI ((ws ++ [48 + ((x / 100) % 10)]).length)), .long tl, .int (iv 37), .int (iv 38), .int (iv 39), .int (iv 40), .ref (ad 41), .ref (ad 42), .int (iv 43)])) := mo47.1
        have ha49 : h41 (ad 30) = some (60, .inl (.int, 1152, .inl (f44))) := (mo47.2.2 30 (by decide)).1
        refine lv_iload_n hx hb d_p15m41_37 rfl (lv_at hl 0 rfl) ?_
        refine lv_bipush (v := nI 10) hx hb d_p15m41_38 (by decide) ?_
        refine lv_idiv hx hb d_p15m41_40 (by decide) ?_
        refine pd_top (v' := .int (nI 10)) (by rw [pk_div (by omega) (by omega) (by omega)]) ?_
        refine lv_istore_n (lv' := [(3, .int (nI 10)), (2, .int (nI 100)), (0, .ref y), (1, .int (nI x))]) hx hb d_p15m41_41 rfl hl (by decide) rfl (fun ls hl => ?_)
        refine lv_goto (tgt := 20) hx hb d_p15m41_42 (by decide) ?_
        refine lv_iload_n hx hb d_p15m41_20 rfl (lv_at hl 0 rfl) ?_
        refine pd_zle (tgt := 45) hx hb d_p15m41_21 (by decide) (by decide) (fun q => absurd q (by decide)) (fun _ => ?_)
        refine lv_aload_n hx hb d_p15m41_24 rfl (lv_at hl 2 rfl) ?_
        refine lv_bipush (v := nI 48) hx hb d_p15m41_25 (by decide) ?_
        refine lv_iload_n hx hb d_p15m41_27 rfl (lv_at hl 3 rfl) ?_
        refine lv_iload_n hx hb d_p15m41_28 rfl (lv_at hl 0 rfl) ?_
        refine lv_idiv hx hb d_p15m41_29 (by decide) ?_
        refine pd_top (v' := .int (nI (x / 10))) (by rw [pk_div (by omega) (by omega) (by omega)]) ?_
        refine lv_bipush (v := nI 10) hx hb d_p15m41_30 (by decide) ?_
        refine lv_irem hx hb d_p15m41_32 (by decide) ?_
        refine pd_top (v' := .int (nI ((x / 10) % 10))) (by rw [pk_rem (by omega) (by omega) (by omega)]) ?_
        refine pd_iadd hx hb d_p15m41_33 ?_
        refine pd_cVv (a := y) (As := [.int (nI (48 + ((x / 10) % 10)))]) (rest := []) X w hy48 rfl (c_Mod_letter l G h41 (an := an) (f0 := f0) (ws := ws ++ [48 + ((x / 100) % 10)]) (ad := ad) (fv := pd_fu fv 30 f44) (iv := pd_fu iv 35 (nI ((ws ++ [48 + ((x / 100) % 10)]).length))) (tl := tl) mo47 (by assumption) (by omega) (by first | rfl | assumption) (by assumption) (by (try simp only [List.length_append, List.length_cons, List.length_nil, List.length_map, List.length_range, List.length_take]); omega)) ok_Mod_letter ⟨mT_1439, sT_47⟩ mT_1437 ⟨by decide, by decide⟩ rfl hl.1 rfl (Nat.le_of_ble_eq_true rfl) d_p15m41_34 ⟨by decide, by decide⟩ (fun h52 H locs hp53 w => ?_)
        refine W.widen (k := 0) (n := 0) (by decide) (by decide) ?_
        obtain ⟨k54, f55, f56, f57⟩ := hp53
        have mo58 : pd_MO G h52 y ad (pd_fu fv 30 f55) (pd_fu iv 35 (nI ((ws ++ [48 + ((x / 100) % 10)] ++ [48 + ((x / 10) % 10)]).length))) tl := pd_MO.ext f56 (fun j9 hj9 => by by_cases e930 : j9 = 30; subst e930; rfl; simp only [pd_fu, if_neg e930]) rfl
        have hy59 : h52 y = some (20, .inr (10, [.ref (ad 0), .ref (ad 1), .ref (ad 2), .int (iv 3), .int (iv 4), .int (iv 5), .ref (ad 6), .ref (ad 7), .ref (ad 8), .ref (ad 9), .ref (ad 10), .ref (ad 11), .int (iv 12), .ref (ad 13), .ref (ad 14), .ref (ad 15), .ref (ad 16), .ref (ad 17), .ref (ad 18), .ref (ad 19), .int (iv 20), .ref (ad 21), .ref (ad 22), .ref (ad 23), .ref (ad 24), .ref (ad 25), .ref (ad 26), .ref (ad 27), .ref (ad 28), .int (iv 29), .ref (ad 30), .ref (ad 31), .int (iv 32), .int (iv 33), .int (iv 34), .int (nI ((ws ++ [48 + ((x / 100) % 10)] ++ [48 + ((x / 10) % 10)]).length)), .long tl, .int (iv 37), .int (iv 38), .int (iv 39), .int (iv 40), .ref (ad 41), .ref (ad 42), .int (iv 43)])) := mo58.1
        have ha60 : h52 (ad 30) = some (60, .inl (.int, 1152, .inl (f55))) := (mo58.2.2 30 (by decide)).1
        refine lv_iload_n hx hb d_p15m41_37 rfl (lv_at hl 0 rfl) ?_
        refine lv_bipush (v := nI 10) hx hb d_p15m41_38 (by decide) ?_
        refine lv_idiv hx hb d_p15m41_40 (by decide) ?_
        refine pd_top (v' := .int (nI 1)) (by rw [pk_div (by omega) (by omega) (by omega)]) ?_
        refine lv_istore_n (lv' := [(3, .int (nI 1)), (2, .int (nI 100)), (0, .ref y), (1, .int (nI x))]) hx hb d_p15m41_41 rfl hl (by decide) rfl (fun ls hl => ?_)
        refine lv_goto (tgt := 20) hx hb d_p15m41_42 (by decide) ?_
        refine lv_iload_n hx hb d_p15m41_20 rfl (lv_at hl 0 rfl) ?_
        refine pd_zle (tgt := 45) hx hb d_p15m41_21 (by decide) (by decide) (fun q => absurd q (by decide)) (fun _ => ?_)
        refine lv_aload_n hx hb d_p15m41_24 rfl (lv_at hl 2 rfl) ?_
        refine lv_bipush (v := nI 48) hx hb d_p15m41_25 (by decide) ?_
        refine lv_iload_n hx hb d_p15m41_27 rfl (lv_at hl 3 rfl) ?_
        refine lv_iload_n hx hb d_p15m41_28 rfl (lv_at hl 0 rfl) ?_
        refine lv_idiv hx hb d_p15m41_29 (by decide) ?_
        refine pd_top (v' := .int (nI (x / 1))) (by rw [pk_div (by omega) (by omega) (by omega)]) ?_
        refine lv_bipush (v := nI 10) hx hb d_p15m41_30 (by decide) ?_
        refine lv_irem hx hb d_p15m41_32 (by decide) ?_
        refine pd_top (v' := .int (nI ((x / 1) % 10))) (by rw [pk_rem (by omega) (by omega) (by omega)]) ?_
        refine pd_iadd hx hb d_p15m41_33 ?_
        refine pd_cVv (a := y) (As := [.int (nI (48 + ((x / 1) % 10)))]) (rest := []) X w hy59 rfl (c_Mod_letter l G h52 (an := an) (f0 := f0) (ws := ws ++ [48 + ((x / 100) % 10)] ++ [48 + ((x / 10) % 10)]) (ad := ad) (fv := pd_fu fv 30 f55) (iv := pd_fu iv 35 (nI ((ws ++ [48 + ((x / 100) % 10)] ++ [48 + ((x / 10) % 10)]).length))) (tl := tl) mo58 (by assumption) (by omega) (by first | rfl | assumption) (by assumption) (by (try simp only [List.length_append, List.length_cons, List.length_nil, List.length_map, List.length_range, List.length_take]); omega)) ok_Mod_letter ⟨mT_1439, sT_47⟩ mT_1437 ⟨by decide, by decide⟩ rfl hl.1 rfl (Nat.le_of_ble_eq_true rfl) d_p15m41_34 ⟨by decide, by decide⟩ (fun h63 H locs hp64 w => ?_)
        refine W.widen (k := 0) (n := 0) (by decide) (by decide) ?_
        obtain ⟨k65, f66, f67, f68⟩ := hp64
        have mo69 : pd_MO G h63 y ad (pd_fu fv 30 f66) (pd_fu iv 35 (nI ((ws ++ [48 + ((x / 100) % 10)] ++ [48 + ((x / 10) % 10)] ++ [48 + ((x / 1) % 10)]).length))) tl := pd_MO.ext f67 (fun j9 hj9 => by by_cases e930 : j9 = 30; subst e930; rfl; simp only [pd_fu, if_neg e930]) rfl
        have hy70 : h63 y = some (20, .inr (10, [.ref (ad 0), .ref (ad 1), .ref (ad 2), .int (iv 3), .int (iv 4), .int (iv 5), .ref (ad 6), .ref (ad 7), .ref (ad 8), .ref (ad 9), .ref (ad 10), .ref (ad 11), .int (iv 12), .ref (ad 13), .ref (ad 14), .ref (ad 15), .ref (ad 16), .ref (ad 17), .ref (ad 18), .ref (ad 19), .int (iv 20), .ref (ad 21), .ref (ad 22), .ref (ad 23), .ref (ad 24), .ref (ad 25), .ref (ad 26), .ref (ad 27), .ref (ad 28), .int (iv 29), .ref (ad 30), .ref (ad 31), .int (iv 32), .int (iv 33), .int (iv 34), .int (nI ((ws ++ [48 + ((x / 100) % 10)] ++ [48 + ((x / 10) % 10)] ++ [48 + ((x / 1) % 10)]).length)), .long tl, .int (iv 37), .int (iv 38), .int (iv 39), .int (iv 40), .ref (ad 41), .ref (ad 42), .int (iv 43)])) := mo69.1
        have ha71 : h63 (ad 30) = some (60, .inl (.int, 1152, .inl (f66))) := (mo69.2.2 30 (by decide)).1
        refine lv_iload_n hx hb d_p15m41_37 rfl (lv_at hl 0 rfl) ?_
        refine lv_bipush (v := nI 10) hx hb d_p15m41_38 (by decide) ?_
        refine lv_idiv hx hb d_p15m41_40 (by decide) ?_
        refine pd_top (v' := .int (nI 0)) (by rw [pk_div (by omega) (by omega) (by omega)]) ?_
        refine lv_istore_n (lv' := [(3, .int (nI 0)), (2, .int (nI 100)), (0, .ref y), (1, .int (nI x))]) hx hb d_p15m41_41 rfl hl (by decide) rfl (fun ls hl => ?_)
        refine lv_goto (tgt := 20) hx hb d_p15m41_42 (by decide) ?_
        refine lv_iload_n hx hb d_p15m41_20 rfl (lv_at hl 0 rfl) ?_
        refine pd_zle (tgt := 45) hx hb d_p15m41_21 (by decide) (by decide) (fun _ => ?_) (fun q => absurd q (by decide))
        have hdg : ws ++ gr_dig x = ws ++ [48 + ((x / 100) % 10)] ++ [48 + ((x / 10) % 10)] ++ [48 + ((x / 1) % 10)] := by rw [gr_dig_3 (by omega), show 48 + ((x / 100) % 10) = 48 + x / 100 by omega, show 48 + ((x / 10) % 10) = 48 + x / 10 % 10 by omega, show 48 + ((x / 1) % 10) = 48 + x % 10 by omega, List.append_assoc, List.append_assoc]; rfl
        exact pd_vret X w ⟨pd_kx.tr (pd_kx.tr (k43) (k54)) (k65), _, (by rw [hdg]; exact mo69), (by rw [hdg]; exact f68)⟩ (by decide) (by decide) d_p15m41_45
      · -- not taken: 10
        exfalso
        omega
