/-! the reference begins -/
theorem d_p15m2_0 : decode prog_15_method_2_code 0 = .ok (.iconst 0, 1) := by decide +kernel
theorem d_p15m2_1 : decode prog_15_method_2_code 1 = .ok (.istore 5, 2) := by decide +kernel
theorem d_p15m2_3 : decode prog_15_method_2_code 3 = .ok (.iload 5, 2) := by decide +kernel
theorem d_p15m2_5 : decode prog_15_method_2_code 5 = .ok (.iload 4, 2) := by decide +kernel
theorem d_p15m2_7 : decode prog_15_method_2_code 7 = .ok (.if_icmp .ge 33, 3) := by decide +kernel
theorem d_p15m2_10 : decode prog_15_method_2_code 10 = .ok (.aload_n 0, 1) := by decide +kernel
theorem d_p15m2_11 : decode prog_15_method_2_code 11 = .ok (.getfield 19, 3) := by decide +kernel
theorem d_p15m2_14 : decode prog_15_method_2_code 14 = .ok (.bipush 24, 2) := by decide +kernel
theorem d_p15m2_16 : decode prog_15_method_2_code 16 = .ok (.iload_n 1, 1) := by decide +kernel
theorem d_p15m2_17 : decode prog_15_method_2_code 17 = .ok (.imul, 1) := by decide +kernel
theorem d_p15m2_18 : decode prog_15_method_2_code 18 = .ok (.iload 5, 2) := by decide +kernel
theorem d_p15m2_20 : decode prog_15_method_2_code 20 = .ok (.iadd, 1) := by decide +kernel
theorem d_p15m2_21 : decode prog_15_method_2_code 21 = .ok (.lload_n 2, 1) := by decide +kernel
theorem d_p15m2_22 : decode prog_15_method_2_code 22 = .ok (.bipush 8, 2) := by decide +kernel
theorem d_p15m2_24 : decode prog_15_method_2_code 24 = .ok (.iload 5, 2) := by decide +kernel
theorem d_p15m2_26 : decode prog_15_method_2_code 26 = .ok (.imul, 1) := by decide +kernel
theorem d_p15m2_27 : decode prog_15_method_2_code 27 = .ok (.lshr, 1) := by decide +kernel
theorem d_p15m2_28 : decode prog_15_method_2_code 28 = .ok (.ldc2_w 107, 3) := by decide +kernel
theorem d_p15m2_31 : decode prog_15_method_2_code 31 = .ok (.land, 1) := by decide +kernel
theorem d_p15m2_32 : decode prog_15_method_2_code 32 = .ok (.l2i, 1) := by decide +kernel
theorem d_p15m2_33 : decode prog_15_method_2_code 33 = .ok (.iastore, 1) := by decide +kernel
theorem d_p15m2_34 : decode prog_15_method_2_code 34 = .ok (.iinc 5 1, 3) := by decide +kernel
theorem d_p15m2_37 : decode prog_15_method_2_code 37 = .ok (.goto (-34), 3) := by decide +kernel
theorem d_p15m2_40 : decode prog_15_method_2_code 40 = .ok (.aload_n 0, 1) := by decide +kernel
theorem d_p15m2_41 : decode prog_15_method_2_code 41 = .ok (.getfield 22, 3) := by decide +kernel
theorem d_p15m2_44 : decode prog_15_method_2_code 44 = .ok (.iload_n 1, 1) := by decide +kernel
theorem d_p15m2_45 : decode prog_15_method_2_code 45 = .ok (.iload 4, 2) := by decide +kernel
theorem d_p15m2_47 : decode prog_15_method_2_code 47 = .ok (.iastore, 1) := by decide +kernel
theorem d_p15m2_48 : decode prog_15_method_2_code 48 = .ok (.return_, 1) := by decide +kernel
abbrev y_Mod_title : MethodName := ⟨"PolicyDeskModel", "title", "(IJI)V"⟩
theorem ok_Mod_title : pd_ok y_Mod_title prog_15_method_2_code 6 none 3 := ⟨mT_1136, mT_21, by decide, by decide +kernel⟩
abbrev rm_Mod_title : Room := { frames := 0, cells := 0, slots := 0, locals := 0 }
set_option maxHeartbeats 4000000 in
set_option maxRecDepth 100000 in
theorem lp_Mod_title_3 (l : Launch) (G : pd_G) (h : pd_H) {y : Nat} {ad : Nat → Nat} {fv : Nat → Nat → Int32} {iv : Nat → Int32} {tl : Int64} {c9 nn : Nat} {wd : Int64} (hMO : pd_MO G h y ad fv iv tl) (hc9 : c9 ≤ 1) (hnn : nn ≤ 9) {p : Program} {e : Env} {s : State} {m : MethodId} {below : List Frame} {meth : Method} {c : Code} (X : pd_B p s m [.ref y, .int (nI c9), .long wd, .int (nI nn)].toArray meth c G y_Mod_title.cls prog_15_method_2_code 6 none) (hmn : meth.name = y_Mod_title.name) :
    ∀ (kk9 : Nat) (ii : Nat) (fo6 : Nat → Int32) (hh : pd_H), (pd_kx [36, 37] h hh) → (pd_MO G hh y ad (pd_fu fv 6 fo6) (iv) tl) → (ii ≤ nn) → (∀ t, t < ii → fo6 (24 * c9 + t) = nI (gm_oc wd t)) → (∀ x, x < 24 * c9 ∨ 24 * c9 + nn ≤ x → fo6 x = fv 6 x) → 100 - ii < kk9 → ∀ (H : Heap) (locs : List Loc), pd_w G s H locs hh → ∀ ls : Array Slot, lv_has ls 6 [(5, .int (nI ii)), (0, .ref y), (1, .int (nI c9)), (2, .long wd), (4, .int (nI nn))] → W p l e rm_Mod_title s m [.ref y, .int (nI c9), .long wd, .int (nI nn)].toArray below meth c H locs 0 0 (MQ below (pd_Qv G (fun h1 => pd_kx [36, 37] h h1 ∧ ∃ fo6, pd_MO G h1 y ad (pd_fu (pd_fu fv 6 fo6) 7 (upd (fv 7) c9 (nI nn))) iv tl ∧ (∀ t, t < nn → fo6 (24 * c9 + t) = nI (gm_oc wd t)) ∧ ∀ x, x < 24 * c9 ∨ 24 * c9 + nn ≤ x → fo6 x = fv 6 x)) [.ref y, .int (nI c9), .long wd, .int (nI nn)].toArray s rm_Mod_title.cells rm_Mod_title.slots (fun q => G.2.1 ≤ q)) (F0 m 3 ls []) := by
  have hx := X.1
  have hb := X.2.1
  have hz_y := hMO.2.1
  have hy0 : h y = some (20, .inr (10, [.ref (ad 0), .ref (ad 1), .ref (ad 2), .int (iv 3), .int (iv 4), .int (iv 5), .ref (ad 6), .ref (ad 7), .ref (ad 8), .ref (ad 9), .ref (ad 10), .ref (ad 11), .int (iv 12), .ref (ad 13), .ref (ad 14), .ref (ad 15), .ref (ad 16), .ref (ad 17), .ref (ad 18), .ref (ad 19), .int (iv 20), .ref (ad 21), .ref (ad 22), .ref (ad 23), .ref (ad 24), .ref (ad 25), .ref (ad 26), .ref (ad 27), .ref (ad 28), .int (iv 29), .ref (ad 30), .ref (ad 31), .int (iv 32), .int (iv 33), .int (iv 34), .int (iv 35), .long tl, .int (iv 37), .int (iv 38), .int (iv 39), .int (iv 40), .ref (ad 41), .ref (ad 42), .int (iv 43)])) := hMO.1
  have ha6 : h (ad 6) = some (36, .inl (.int, 336, .inl (fv 6))) := (hMO.2.2 6 (by decide)).1
  have ha7 : h (ad 7) = some (37, .inl (.int, 14, .inl (fv 7))) := (hMO.2.2 7 (by decide)).1
  intro kk9
  induction kk9 with
  | zero => intros; omega
  | succ kk9 ih =>
    intro ii fo6 hh hk2 hMO2 hi hf6 hk6 hmu H locs w ls hl
    have hz_y := hMO2.2.1
    have hy2 : hh y = some (20, .inr (10, [.ref (ad 0), .ref (ad 1), .ref (ad 2), .int (iv 3), .int (iv 4), .int (iv 5), .ref (ad 6), .ref (ad 7), .ref (ad 8), .ref (ad 9), .ref (ad 10), .ref (ad 11), .int (iv 12), .ref (ad 13), .ref (ad 14), .ref (ad 15), .ref (ad 16), .ref (ad 17), .ref (ad 18), .ref (ad 19), .int (iv 20), .ref (ad 21), .ref (ad 22), .ref (ad 23), .ref (ad 24), .ref (ad 25), .ref (ad 26), .ref (ad 27), .ref (ad 28), .int (iv 29), .ref (ad 30), .ref (ad 31), .int (iv 32), .int (iv 33), .int (iv 34), .int (iv 35), .long tl, .int (iv 37), .int (iv 38), .int (iv 39), .int (iv 40), .ref (ad 41), .ref (ad 42), .int (iv 43)])) := hMO2.1
    have ha6 : hh (ad 6) = some (36, .inl (.int, 336, .inl (fo6))) := (hMO2.2.2 6 (by decide)).1
    have ha7 : hh (ad 7) = some (37, .inl (.int, 14, .inl (fv 7))) := (hMO2.2.2 7 (by decide)).1
    refine lv_iload hx hb d_p15m2_3 (lv_at hl 0 rfl) ?_
    refine lv_iload hx hb d_p15m2_5 (lv_at hl 4 rfl) ?_
    refine pd_jge (tgt := 40) hx hb d_p15m2_7 (by decide) (by omega) (by omega) (fun q1 => ?_) (fun q1 => ?_)
    · -- taken: 40
      refine lv_aload_n hx hb d_p15m2_40 rfl (lv_at hl 1 rfl) ?_
      refine pd_get X w hy2 rfl 7 (by decide) mT_1146 rfl rfl d_p15m2_41 ?_
      refine lv_iload_n hx hb d_p15m2_44 rfl (lv_at hl 2 rfl) ?_
      refine lv_iload hx hb d_p15m2_45 (lv_at hl 4 rfl) ?_
      refine pd_iast X w ha7 (hMO.2.2 7 (by decide)).2 (by omega) (by omega) d_p15m2_47 (fun H locs w => ?_)
      have w : pd_w G s H locs (pd_up hh (ad 7) (37, .inl (.int, 14, .inl (upd (fv 7) c9 (nI nn))))) := w
      obtain ⟨h2, u5⟩ : ∃ z, z = pd_up hh (ad 7) (37, .inl (.int, 14, .inl (upd (fv 7) c9 (nI nn)))) := ⟨_, rfl⟩
      rw [← u5] at w
      have k3 : pd_kq (ad 7) hh h2 := by rw [u5]; exact pd_up_kq
      have f4 : h2 (ad 7) = some (37, .inl (.int, 14, .inl (upd (fv 7) c9 (nI nn)))) := by rw [u5]; exact pd_up_s _ _ _
      have f6 := k3 _ _ (pd_ne hy2 ha7 (by simp)) hy2
      have f7 := k3 _ _ (pd_ne ha6 ha7 (by simp)) ha6
      have mo8 : pd_MO G h2 y ad (pd_fu (pd_fu fv 6 fo6) 7 (upd (fv 7) c9 (nI nn))) iv tl := pd_MO.of (ts := [37]) hMO2 (pd_kq.kx (k3) ha7) f6 (fun j hj => if e7 : j = 7 then by subst e7; exact Or.inl f4 else Or.inr ⟨fun z => by first | (simp at z; done) | (simp at z; omega), by rw [pd_fu_n e7]⟩)
      exact pd_vret X w ⟨hk2.tr (pd_kx.mono (us := [36, 37]) (pd_kq.kx (k3) ha7) (by simp)), fo6, mo8, (fun t ht => hf6 t (by omega)), hk6⟩ (by decide) (by decide) d_p15m2_48
    · -- not taken: 10
      refine lv_aload_n hx hb d_p15m2_10 rfl (lv_at hl 1 rfl) ?_
      refine pd_get X w hy2 rfl 6 (by decide) mT_1145 rfl rfl d_p15m2_11 ?_
      refine lv_bipush (v := nI 24) hx hb d_p15m2_14 (by decide) ?_
      refine lv_iload_n hx hb d_p15m2_16 rfl (lv_at hl 2 rfl) ?_
      refine pd_imul hx hb d_p15m2_17 ?_
      refine lv_iload hx hb d_p15m2_18 (lv_at hl 0 rfl) ?_
      refine pd_iadd hx hb d_p15m2_20 ?_
      refine lv_lload_n hx hb d_p15m2_21 rfl (lv_at hl 3 rfl) ?_
      refine lv_bipush (v := nI 8) hx hb d_p15m2_22 (by decide) ?_
      refine lv_iload hx hb d_p15m2_24 (lv_at hl 0 rfl) ?_
      refine pd_imul hx hb d_p15m2_26 ?_
      refine lv_lshr hx hb d_p15m2_27 rfl ?_
      refine lv_ldc2 (v := 255) hx hb X.2.2.2.2.1 (X.2.2.2.2.2.1 _ mT_1137) d_p15m2_28 ?_
      refine lv_land hx hb d_p15m2_31 ?_
      refine lv_l2i hx hb d_p15m2_32 rfl ?_
      refine pd_top (v' := .int (nI (gm_oc wd ii))) (congrArg Value.int (gm_oct _)) ?_
      refine pd_iast X w ha6 (hMO.2.2 6 (by decide)).2 (by omega) (by omega) d_p15m2_33 (fun H locs w => ?_)
      have w : pd_w G s H locs (pd_up hh (ad 6) (36, .inl (.int, 336, .inl (upd fo6 ((24 * c9) + ii) (nI (gm_oc wd ii)))))) := w
      obtain ⟨h9, u12⟩ : ∃ z, z = pd_up hh (ad 6) (36, .inl (.int, 336, .inl (upd fo6 ((24 * c9) + ii) (nI (gm_oc wd ii))))) := ⟨_, rfl⟩
      rw [← u12] at w
      have k10 : pd_kq (ad 6) hh h9 := by rw [u12]; exact pd_up_kq
      have f11 : h9 (ad 6) = some (36, .inl (.int, 336, .inl (upd fo6 ((24 * c9) + ii) (nI (gm_oc wd ii))))) := by rw [u12]; exact pd_up_s _ _ _
      have f13 := k10 _ _ (pd_ne hy2 ha6 (by simp)) hy2
      have f14 := k10 _ _ (pd_ne ha7 ha6 (by simp)) ha7
      refine pd_iinc (k := 0) (d := 1) (lv' := [(5, .int (nI (ii + 1))), (0, .ref y), (1, .int (nI c9)), (2, .long wd), (4, .int (nI nn))]) hx hb d_p15m2_34 (by decide) hl rfl (by decide) rfl (fun ls hl => ?_)
      refine lv_goto (tgt := 3) hx hb d_p15m2_37 (by decide) ?_
      have mo15 : pd_MO G h9 y ad (pd_fu (pd_fu fv 6 fo6) 6 (upd fo6 ((24 * c9) + ii) (nI (gm_oc wd ii)))) iv tl := pd_MO.of (ts := [36]) hMO2 (pd_kq.kx (k10) ha6) f13 (fun j hj => if e6 : j = 6 then by subst e6; exact Or.inl f11 else Or.inr ⟨fun z => by first | (simp at z; done) | (simp at z; omega), by rw [pd_fu_n e6]⟩)
      exact ih (ii + 1) (upd fo6 ((24 * c9) + ii) (nI (gm_oc wd ii))) h9 (hk2.tr (pd_kx.mono (us := [36, 37]) (pd_kq.kx (k10) ha6) (by simp))) ((pd_MO.ext (fv2 := pd_fu fv 6 (upd fo6 ((24 * c9) + ii) (nI (gm_oc wd ii)))) (iv2 := iv) mo15 (fun j9 hj9 => by by_cases e906 : j9 = 6; subst e906; rfl; simp only [pd_fu, if_neg e906]) rfl)) (by omega) (fun t ht => by by_cases e9 : t = ii; subst e9; rw [pk_us]; rw [pk_un (by omega)]; exact hf6 t (by omega)) (fun x hx => by rw [pk_un (by omega)]; exact hk6 x hx) (by omega) _ _ w ls (lv_sub hl [0, 1, 2, 3, 4] rfl)
set_option maxHeartbeats 4000000 in
set_option maxRecDepth 100000 in
theorem c_Mod_title (l : Launch) (G : pd_G) (h : pd_H) {y : Nat} {ad : Nat → Nat} {fv : Nat → Nat → Int32} {iv : Nat → Int32} {tl : Int64} {c9 nn : Nat} {wd : Int64} (hMO : pd_MO G h y ad fv iv tl) (hc9 : c9 ≤ 1) (hnn : nn ≤ 9) : pd_Mv l y_Mod_title prog_15_method_2_code 6 rm_Mod_title G h [.ref y, .int (nI c9), .long wd, .int (nI nn)] (fun h1 => pd_kx [36, 37] h h1 ∧ ∃ fo6, pd_MO G h1 y ad (pd_fu (pd_fu fv 6 fo6) 7 (upd (fv 7) c9 (nI nn))) iv tl ∧ (∀ t, t < nn → fo6 (24 * c9 + t) = nI (gm_oc wd t)) ∧ ∀ x, x < 24 * c9 ∨ 24 * c9 + nn ≤ x → fo6 x = fv 6 x) := by
  refine pd_Mv.of (by decide) (Nat.le_of_ble_eq_true rfl) ?_
  intro p e s m below meth c X hmn w ls hl
  have hx := X.1
  have hb := X.2.1
  have hl : lv_has ls 6 [(0, .ref y), (1, .int (nI c9)), (2, .long wd), (4, .int (nI nn))] := hl
  have hz_y := hMO.2.1
  have hy0 : h y = some (20, .inr (10, [.ref (ad 0), .ref (ad 1), .ref (ad 2), .int (iv 3), .int (iv 4), .int (iv 5), .ref (ad 6), .ref (ad 7), .ref (ad 8), .ref (ad 9), .ref (ad 10), .ref (ad 11), .int (iv 12), .ref (ad 13), .ref (ad 14), .ref (ad 15), .ref (ad 16), .ref (ad 17), .ref (ad 18), .ref (ad 19), .int (iv 20), .ref (ad 21), .ref (ad 22), .ref (ad 23), .ref (ad 24), .ref (ad 25), .ref (ad 26), .ref (ad 27), .ref (ad 28), .int (iv 29), .ref (ad 30), .ref (ad 31), .int (iv 32), .int (iv 33), .int (iv 34), .int (iv 35), .long tl, .int (iv 37), .int (iv 38), .int (iv 39), .int (iv 40), .ref (ad 41), .ref (ad 42), .int (iv 43)])) := hMO.1
  have ha6 : h (ad 6) = some (36, .inl (.int, 336, .inl (fv 6))) := (hMO.2.2 6 (by decide)).1
  have ha7 : h (ad 7) = some (37, .inl (.int, 14, .inl (fv 7))) := (hMO.2.2 7 (by decide)).1
  refine lv_iconst (v := nI 0) hx hb d_p15m2_0 (by decide) ?_
  refine lv_istore (lv' := [(5, .int (nI 0)), (0, .ref y), (1, .int (nI c9)), (2, .long wd), (4, .int (nI nn))]) hx hb d_p15m2_1 hl (by decide) rfl (fun ls hl => ?_)
  exact lp_Mod_title_3 l G h hMO hc9 hnn X hmn (100 + 1) 0 (fv 6) h (pd_kx.rf) ((pd_MO.ext (fv2 := pd_fu fv 6 (fv 6)) (iv2 := iv) hMO (fun j9 hj9 => by by_cases e906 : j9 = 6; subst e906; rfl; simp only [pd_fu, if_neg e906]) rfl)) (by omega) (fun t ht => absurd ht (Nat.not_lt_zero t)) (fun _ _ => rfl) (by omega) _ _ w ls (lv_sub hl [0, 1, 2, 3, 4] rfl)
theorem gm_oc_o : ∀ t, t < 6 → gm_oc 127970252055119 t = ([79, 98, 106, 101, 99, 116] : List Nat).getD t 0 := by decide +kernel
theorem gm_oc_b : ∀ t, t < 6 → gm_oc 127978875155778 t = ([66, 117, 100, 103, 101, 116] : List Nat).getD t 0 := by decide +kernel
theorem gm_Z0 {fv : Nat → Nat → Int32} {iv : Nat → Int32} {f6 g6 : Nat → Int32} (hfv : fv = pd_fu (fun _ _ => 0) 8 (upd (fun _ => 0) 0 (-1))) (hiv : iv = pd_fu (fun _ => nI 0) 12 (nI 2)) (a1 : ∀ t, t < 6 → f6 (24 * 0 + t) = nI (gm_oc 127970252055119 t)) (b1 : ∀ t, t < 6 → g6 (24 * 1 + t) = nI (gm_oc 127978875155778 t)) (b2 : ∀ x, x < 24 * 1 ∨ 24 * 1 + 6 ≤ x → g6 x = f6 x) : gm_ZT (pd_fu (pd_fu (pd_fu (pd_fu fv 6 f6) 7 (upd (fv 7) 0 (nI 6))) 6 g6) 7 (upd ((pd_fu (pd_fu fv 6 f6) 7 (upd (fv 7) 0 (nI 6))) 7) 1 (nI 6))) iv 0 gr_z0 := by
  subst hfv
  subst hiv
  refine ⟨gm_L_nil rfl, rfl, ⟨rfl, by decide, by decide, fun k hk => ?_⟩, ⟨rfl, by decide, fun j hj => absurd hj (Nat.not_lt_zero j)⟩, ⟨rfl, by decide, fun j hj => absurd hj (Nat.not_lt_zero j)⟩, fun j hj => ⟨rfl, Nat.zero_le _, fun i hi => absurd hi (Nat.not_lt_zero i)⟩, rfl, rfl, rfl, rfl, rfl, rfl⟩
  have hk : k < 2 := hk
  rcases (show k = 0 ∨ k = 1 by omega) with rfl | rfl
  · refine ⟨rfl, by decide, fun i hi => ?_, by decide, rfl, rfl, rfl, fun i hi => absurd hi (Nat.not_lt_zero i), fun _ => rfl, by decide +kernel⟩
    have hi : i < 6 := hi
    show g6 (24 * 0 + i) = _
    rw [b2 _ (by omega), a1 i hi, gm_oc_o i hi]
    rfl
  · refine ⟨rfl, by decide, fun i hi => ?_, by decide, rfl, rfl, rfl, fun i hi => absurd hi (Nat.not_lt_zero i), fun _ => rfl, by decide +kernel⟩
    have hi : i < 6 := hi
    show g6 (24 * 1 + i) = _
    rw [b1 i hi, gm_oc_b i hi]
    rfl
theorem d_p15m1_0 : decode prog_15_method_1_code 0 = .ok (.aload_n 0, 1) := by decide +kernel
theorem d_p15m1_1 : decode prog_15_method_1_code 1 = .ok (.invokespecial 1, 3) := by decide +kernel
theorem d_p15m1_4 : decode prog_15_method_1_code 4 = .ok (.aload_n 0, 1) := by decide +kernel
theorem d_p15m1_5 : decode prog_15_method_1_code 5 = .ok (.bipush 60, 2) := by decide +kernel
theorem d_p15m1_7 : decode prog_15_method_1_code 7 = .ok (.newarray .int, 2) := by decide +kernel
theorem d_p15m1_9 : decode prog_15_method_1_code 9 = .ok (.putfield 7, 3) := by decide +kernel
theorem d_p15m1_12 : decode prog_15_method_1_code 12 = .ok (.aload_n 0, 1) := by decide +kernel
theorem d_p15m1_13 : decode prog_15_method_1_code 13 = .ok (.bipush 40, 2) := by decide +kernel
theorem d_p15m1_15 : decode prog_15_method_1_code 15 = .ok (.newarray .int, 2) := by decide +kernel
theorem d_p15m1_17 : decode prog_15_method_1_code 17 = .ok (.putfield 13, 3) := by decide +kernel
theorem d_p15m1_20 : decode prog_15_method_1_code 20 = .ok (.aload_n 0, 1) := by decide +kernel
theorem d_p15m1_21 : decode prog_15_method_1_code 21 = .ok (.bipush 40, 2) := by decide +kernel
theorem d_p15m1_23 : decode prog_15_method_1_code 23 = .ok (.newarray .int, 2) := by decide +kernel
theorem d_p15m1_25 : decode prog_15_method_1_code 25 = .ok (.putfield 16, 3) := by decide +kernel
theorem d_p15m1_28 : decode prog_15_method_1_code 28 = .ok (.aload_n 0, 1) := by decide +kernel
theorem d_p15m1_29 : decode prog_15_method_1_code 29 = .ok (.sipush 336, 3) := by decide +kernel
theorem d_p15m1_32 : decode prog_15_method_1_code 32 = .ok (.newarray .int, 2) := by decide +kernel
theorem d_p15m1_34 : decode prog_15_method_1_code 34 = .ok (.putfield 19, 3) := by decide +kernel
theorem d_p15m1_37 : decode prog_15_method_1_code 37 = .ok (.aload_n 0, 1) := by decide +kernel
theorem d_p15m1_38 : decode prog_15_method_1_code 38 = .ok (.bipush 14, 2) := by decide +kernel
theorem d_p15m1_40 : decode prog_15_method_1_code 40 = .ok (.newarray .int, 2) := by decide +kernel
theorem d_p15m1_42 : decode prog_15_method_1_code 42 = .ok (.putfield 22, 3) := by decide +kernel
theorem d_p15m1_45 : decode prog_15_method_1_code 45 = .ok (.aload_n 0, 1) := by decide +kernel
theorem d_p15m1_46 : decode prog_15_method_1_code 46 = .ok (.bipush 14, 2) := by decide +kernel
theorem d_p15m1_48 : decode prog_15_method_1_code 48 = .ok (.newarray .int, 2) := by decide +kernel
theorem d_p15m1_50 : decode prog_15_method_1_code 50 = .ok (.putfield 25, 3) := by decide +kernel
theorem d_p15m1_53 : decode prog_15_method_1_code 53 = .ok (.aload_n 0, 1) := by decide +kernel
theorem d_p15m1_54 : decode prog_15_method_1_code 54 = .ok (.bipush 28, 2) := by decide +kernel
theorem d_p15m1_56 : decode prog_15_method_1_code 56 = .ok (.newarray .int, 2) := by decide +kernel
theorem d_p15m1_58 : decode prog_15_method_1_code 58 = .ok (.putfield 28, 3) := by decide +kernel
theorem d_p15m1_61 : decode prog_15_method_1_code 61 = .ok (.aload_n 0, 1) := by decide +kernel
theorem d_p15m1_62 : decode prog_15_method_1_code 62 = .ok (.bipush 14, 2) := by decide +kernel
theorem d_p15m1_64 : decode prog_15_method_1_code 64 = .ok (.newarray .int, 2) := by decide +kernel
theorem d_p15m1_66 : decode prog_15_method_1_code 66 = .ok (.putfield 31, 3) := by decide +kernel
theorem d_p15m1_69 : decode prog_15_method_1_code 69 = .ok (.aload_n 0, 1) := by decide +kernel
theorem d_p15m1_70 : decode prog_15_method_1_code 70 = .ok (.bipush 14, 2) := by decide +kernel
theorem d_p15m1_72 : decode prog_15_method_1_code 72 = .ok (.newarray .boolean, 2) := by decide +kernel
theorem d_p15m1_74 : decode prog_15_method_1_code 74 = .ok (.putfield 34, 3) := by decide +kernel
theorem d_p15m1_77 : decode prog_15_method_1_code 77 = .ok (.aload_n 0, 1) := by decide +kernel
theorem d_p15m1_78 : decode prog_15_method_1_code 78 = .ok (.iconst 2, 1) := by decide +kernel
theorem d_p15m1_79 : decode prog_15_method_1_code 79 = .ok (.putfield 38, 3) := by decide +kernel
theorem d_p15m1_82 : decode prog_15_method_1_code 82 = .ok (.aload_n 0, 1) := by decide +kernel
theorem d_p15m1_83 : decode prog_15_method_1_code 83 = .ok (.bipush 24, 2) := by decide +kernel
theorem d_p15m1_85 : decode prog_15_method_1_code 85 = .ok (.newarray .int, 2) := by decide +kernel
theorem d_p15m1_87 : decode prog_15_method_1_code 87 = .ok (.putfield 42, 3) := by decide +kernel
theorem d_p15m1_90 : decode prog_15_method_1_code 90 = .ok (.aload_n 0, 1) := by decide +kernel
theorem d_p15m1_91 : decode prog_15_method_1_code 91 = .ok (.bipush 24, 2) := by decide +kernel
theorem d_p15m1_93 : decode prog_15_method_1_code 93 = .ok (.newarray .int, 2) := by decide +kernel
theorem d_p15m1_95 : decode prog_15_method_1_code 95 = .ok (.putfield 45, 3) := by decide +kernel
theorem d_p15m1_98 : decode prog_15_method_1_code 98 = .ok (.aload_n 0, 1) := by decide +kernel
theorem d_p15m1_99 : decode prog_15_method_1_code 99 = .ok (.sipush 288, 3) := by decide +kernel
theorem d_p15m1_102 : decode prog_15_method_1_code 102 = .ok (.newarray .int, 2) := by decide +kernel
theorem d_p15m1_104 : decode prog_15_method_1_code 104 = .ok (.putfield 48, 3) := by decide +kernel
theorem d_p15m1_107 : decode prog_15_method_1_code 107 = .ok (.aload_n 0, 1) := by decide +kernel
theorem d_p15m1_108 : decode prog_15_method_1_code 108 = .ok (.bipush 24, 2) := by decide +kernel
theorem d_p15m1_110 : decode prog_15_method_1_code 110 = .ok (.newarray .int, 2) := by decide +kernel
theorem d_p15m1_112 : decode prog_15_method_1_code 112 = .ok (.putfield 51, 3) := by decide +kernel
theorem d_p15m1_115 : decode prog_15_method_1_code 115 = .ok (.aload_n 0, 1) := by decide +kernel
theorem d_p15m1_116 : decode prog_15_method_1_code 116 = .ok (.sipush 1440, 3) := by decide +kernel
theorem d_p15m1_119 : decode prog_15_method_1_code 119 = .ok (.newarray .int, 2) := by decide +kernel
theorem d_p15m1_121 : decode prog_15_method_1_code 121 = .ok (.putfield 54, 3) := by decide +kernel
theorem d_p15m1_124 : decode prog_15_method_1_code 124 = .ok (.aload_n 0, 1) := by decide +kernel
theorem d_p15m1_125 : decode prog_15_method_1_code 125 = .ok (.bipush 24, 2) := by decide +kernel
theorem d_p15m1_127 : decode prog_15_method_1_code 127 = .ok (.newarray .int, 2) := by decide +kernel
theorem d_p15m1_129 : decode prog_15_method_1_code 129 = .ok (.putfield 57, 3) := by decide +kernel
theorem d_p15m1_132 : decode prog_15_method_1_code 132 = .ok (.aload_n 0, 1) := by decide +kernel
theorem d_p15m1_133 : decode prog_15_method_1_code 133 = .ok (.bipush 24, 2) := by decide +kernel
theorem d_p15m1_135 : decode prog_15_method_1_code 135 = .ok (.newarray .boolean, 2) := by decide +kernel
theorem d_p15m1_137 : decode prog_15_method_1_code 137 = .ok (.putfield 60, 3) := by decide +kernel
theorem d_p15m1_140 : decode prog_15_method_1_code 140 = .ok (.aload_n 0, 1) := by decide +kernel
theorem d_p15m1_141 : decode prog_15_method_1_code 141 = .ok (.bipush 24, 2) := by decide +kernel
theorem d_p15m1_143 : decode prog_15_method_1_code 143 = .ok (.newarray .int, 2) := by decide +kernel
theorem d_p15m1_145 : decode prog_15_method_1_code 145 = .ok (.putfield 63, 3) := by decide +kernel
theorem d_p15m1_148 : decode prog_15_method_1_code 148 = .ok (.aload_n 0, 1) := by decide +kernel
theorem d_p15m1_149 : decode prog_15_method_1_code 149 = .ok (.bipush 24, 2) := by decide +kernel
theorem d_p15m1_151 : decode prog_15_method_1_code 151 = .ok (.newarray .int, 2) := by decide +kernel
theorem d_p15m1_153 : decode prog_15_method_1_code 153 = .ok (.putfield 66, 3) := by decide +kernel
theorem d_p15m1_156 : decode prog_15_method_1_code 156 = .ok (.aload_n 0, 1) := by decide +kernel
theorem d_p15m1_157 : decode prog_15_method_1_code 157 = .ok (.sipush 576, 3) := by decide +kernel
theorem d_p15m1_160 : decode prog_15_method_1_code 160 = .ok (.newarray .int, 2) := by decide +kernel
theorem d_p15m1_162 : decode prog_15_method_1_code 162 = .ok (.putfield 69, 3) := by decide +kernel
theorem d_p15m1_165 : decode prog_15_method_1_code 165 = .ok (.aload_n 0, 1) := by decide +kernel
theorem d_p15m1_166 : decode prog_15_method_1_code 166 = .ok (.bipush 24, 2) := by decide +kernel
theorem d_p15m1_168 : decode prog_15_method_1_code 168 = .ok (.newarray .int, 2) := by decide +kernel
theorem d_p15m1_170 : decode prog_15_method_1_code 170 = .ok (.putfield 72, 3) := by decide +kernel
theorem d_p15m1_173 : decode prog_15_method_1_code 173 = .ok (.aload_n 0, 1) := by decide +kernel
theorem d_p15m1_174 : decode prog_15_method_1_code 174 = .ok (.bipush 24, 2) := by decide +kernel
theorem d_p15m1_176 : decode prog_15_method_1_code 176 = .ok (.newarray .int, 2) := by decide +kernel
theorem d_p15m1_178 : decode prog_15_method_1_code 178 = .ok (.putfield 75, 3) := by decide +kernel
theorem d_p15m1_181 : decode prog_15_method_1_code 181 = .ok (.aload_n 0, 1) := by decide +kernel
theorem d_p15m1_182 : decode prog_15_method_1_code 182 = .ok (.sipush 1440, 3) := by decide +kernel
theorem d_p15m1_185 : decode prog_15_method_1_code 185 = .ok (.newarray .int, 2) := by decide +kernel
theorem d_p15m1_187 : decode prog_15_method_1_code 187 = .ok (.putfield 78, 3) := by decide +kernel
theorem d_p15m1_190 : decode prog_15_method_1_code 190 = .ok (.aload_n 0, 1) := by decide +kernel
theorem d_p15m1_191 : decode prog_15_method_1_code 191 = .ok (.bipush 24, 2) := by decide +kernel
theorem d_p15m1_193 : decode prog_15_method_1_code 193 = .ok (.newarray .int, 2) := by decide +kernel
theorem d_p15m1_195 : decode prog_15_method_1_code 195 = .ok (.putfield 81, 3) := by decide +kernel
theorem d_p15m1_198 : decode prog_15_method_1_code 198 = .ok (.aload_n 0, 1) := by decide +kernel
theorem d_p15m1_199 : decode prog_15_method_1_code 199 = .ok (.bipush 24, 2) := by decide +kernel
theorem d_p15m1_201 : decode prog_15_method_1_code 201 = .ok (.newarray .int, 2) := by decide +kernel
theorem d_p15m1_203 : decode prog_15_method_1_code 203 = .ok (.putfield 84, 3) := by decide +kernel
theorem d_p15m1_206 : decode prog_15_method_1_code 206 = .ok (.aload_n 0, 1) := by decide +kernel
theorem d_p15m1_207 : decode prog_15_method_1_code 207 = .ok (.sipush 1152, 3) := by decide +kernel
theorem d_p15m1_210 : decode prog_15_method_1_code 210 = .ok (.newarray .int, 2) := by decide +kernel
theorem d_p15m1_212 : decode prog_15_method_1_code 212 = .ok (.putfield 87, 3) := by decide +kernel
theorem d_p15m1_215 : decode prog_15_method_1_code 215 = .ok (.aload_n 0, 1) := by decide +kernel
theorem d_p15m1_216 : decode prog_15_method_1_code 216 = .ok (.bipush 12, 2) := by decide +kernel
theorem d_p15m1_218 : decode prog_15_method_1_code 218 = .ok (.newarray .int, 2) := by decide +kernel
theorem d_p15m1_220 : decode prog_15_method_1_code 220 = .ok (.putfield 90, 3) := by decide +kernel
theorem d_p15m1_223 : decode prog_15_method_1_code 223 = .ok (.aload_n 0, 1) := by decide +kernel
theorem d_p15m1_224 : decode prog_15_method_1_code 224 = .ok (.bipush 16, 2) := by decide +kernel
theorem d_p15m1_226 : decode prog_15_method_1_code 226 = .ok (.newarray .int, 2) := by decide +kernel
theorem d_p15m1_228 : decode prog_15_method_1_code 228 = .ok (.putfield 93, 3) := by decide +kernel
theorem d_p15m1_231 : decode prog_15_method_1_code 231 = .ok (.aload_n 0, 1) := by decide +kernel
theorem d_p15m1_232 : decode prog_15_method_1_code 232 = .ok (.bipush 32, 2) := by decide +kernel
theorem d_p15m1_234 : decode prog_15_method_1_code 234 = .ok (.newarray .int, 2) := by decide +kernel
theorem d_p15m1_236 : decode prog_15_method_1_code 236 = .ok (.putfield 96, 3) := by decide +kernel
theorem d_p15m1_239 : decode prog_15_method_1_code 239 = .ok (.aload_n 0, 1) := by decide +kernel
theorem d_p15m1_240 : decode prog_15_method_1_code 240 = .ok (.getfield 25, 3) := by decide +kernel
theorem d_p15m1_243 : decode prog_15_method_1_code 243 = .ok (.iconst 0, 1) := by decide +kernel
theorem d_p15m1_244 : decode prog_15_method_1_code 244 = .ok (.iconst (-1), 1) := by decide +kernel
theorem d_p15m1_245 : decode prog_15_method_1_code 245 = .ok (.iastore, 1) := by decide +kernel
theorem d_p15m1_246 : decode prog_15_method_1_code 246 = .ok (.aload_n 0, 1) := by decide +kernel
theorem d_p15m1_247 : decode prog_15_method_1_code 247 = .ok (.iconst 0, 1) := by decide +kernel
theorem d_p15m1_248 : decode prog_15_method_1_code 248 = .ok (.ldc2_w 99, 3) := by decide +kernel
theorem d_p15m1_251 : decode prog_15_method_1_code 251 = .ok (.bipush 6, 2) := by decide +kernel
theorem d_p15m1_253 : decode prog_15_method_1_code 253 = .ok (.invokevirtual 101, 3) := by decide +kernel
theorem d_p15m1_256 : decode prog_15_method_1_code 256 = .ok (.aload_n 0, 1) := by decide +kernel
theorem d_p15m1_257 : decode prog_15_method_1_code 257 = .ok (.iconst 1, 1) := by decide +kernel
theorem d_p15m1_258 : decode prog_15_method_1_code 258 = .ok (.ldc2_w 105, 3) := by decide +kernel
theorem d_p15m1_261 : decode prog_15_method_1_code 261 = .ok (.bipush 6, 2) := by decide +kernel
theorem d_p15m1_263 : decode prog_15_method_1_code 263 = .ok (.invokevirtual 101, 3) := by decide +kernel
theorem d_p15m1_266 : decode prog_15_method_1_code 266 = .ok (.return_, 1) := by decide +kernel
abbrev y_Mod_init : MethodName := ⟨"PolicyDeskModel", "<init>", "()V"⟩
theorem ok_Mod_init : pd_ok y_Mod_init prog_15_method_1_code 1 none 0 := ⟨mT_1130, mT_21, by decide, by decide +kernel⟩
abbrev rm_Mod_init : Room := { frames := 1, cells := 28, slots := 5780, locals := 25 }
set_option maxHeartbeats 4000000 in
set_option maxRecDepth 100000 in
theorem c_Mod_init (l : Launch) (G : pd_G) (h : pd_H) {y : Nat} (hy0 : h y = some (20, .inr (10, [.null, .null, .null, .int (nI 0), .int (nI 0), .int (nI 0), .null, .null, .null, .null, .null, .null, .int (nI 0), .null, .null, .null, .null, .null, .null, .null, .int (nI 0), .null, .null, .null, .null, .null, .null, .null, .null, .int (nI 0), .null, .null, .int (nI 0), .int (nI 0), .int (nI 0), .int (nI 0), .long 0, .int (nI 0), .int (nI 0), .int (nI 0), .int (nI 0), .null, .null, .int (nI 0)]))) (hz_y : G.2.1 ≤ y) : pd_Mv l y_Mod_init prog_15_method_1_code 1 rm_Mod_init G h [.ref y] (fun h1 => pd_kx pd_wk h h1 ∧ ∃ (ad : Nat → Nat) (fv : Nat → Nat → Int32) (iv : Nat → Int32), pd_MO G h1 y ad fv iv 0 ∧ gm_ZT fv iv 0 gr_z0) := by
  refine pd_Mv.of (by decide) (Nat.le_of_ble_eq_true rfl) ?_
  intro p e s m below meth c X hmn w ls hl
  have hx := X.1
  have hb := X.2.1
  have hl : lv_has ls 1 [(0, .ref y)] := hl
  refine lv_aload_n hx hb d_p15m1_0 rfl (lv_at hl 0 rfl) ?_
  refine W.objInit hx hb X.2.2.2.2.1 (X.2.2.2.2.2.1 _ mT_1131) (X.2.2.2.2.2.1 _ mT_38) (X.2.2.2.2.2.1 _ mT_39) rfl (by rw [X.2.2.2.1]; exact hl.1) rfl d_p15m1_1 (by decide) (Nat.le_of_ble_eq_true rfl) ?_
  refine W.eq (g2 := F0 m 4 ls []) rfl ?_
  refine lv_aload_n hx hb d_p15m1_4 rfl (lv_at hl 0 rfl) ?_
  refine lv_bipush (v := nI 60) hx hb d_p15m1_5 (by decide) ?_
  refine pd_newa (ty := .int) (x := (60, .inl (fun _ => 0))) 30 X w rfl mT_366 rfl rfl (by omega) (by decide) (fun _ h9 => h9) (by decide) (Nat.le_trans (Nat.add_le_add_left (by omega : 60 ≤ 60) _) (by decide)) d_p15m1_7 (fun q1 H hq2 hz3 w => ?_)
  refine W.widen (k := 1) (n := 60) (by decide) (by omega) ?_
  obtain ⟨h4, u7⟩ : ∃ z, z = pd_up h q1 (30, .inl (.int, 60, .inl (fun _ => 0))) := ⟨_, rfl⟩
  rw [← u7] at w
  have k5 : pd_kx [] h h4 := by rw [u7]; exact pd_new_kx hq2
  have f6 : h4 q1 = some (30, .inl (.int, 60, .inl (fun _ => 0))) := by rw [u7]; exact pd_up_s _ _ _
  have f8 := k5 _ _ hy0 List.not_mem_nil
  refine pd_putF (ty := (.array .int)) X w f8 hz_y rfl 0 (by decide) mT_1139 rfl rfl hmn rfl (by decide +kernel) rfl rfl (Nat.le_of_ble_eq_true rfl) d_p15m1_9 (fun H locs w => ?_)
  have w : pd_w G s H locs (pd_up h4 y (20, .inr (10, [.ref q1, .null, .null, .int (nI 0), .int (nI 0), .int (nI 0), .null, .null, .null, .null, .null, .null, .int (nI 0), .null, .null, .null, .null, .null, .null, .null, .int (nI 0), .null, .null, .null, .null, .null, .null, .null, .null, .int (nI 0), .null, .null, .int (nI 0), .int (nI 0), .int (nI 0), .int (nI 0), .long 0, .int (nI 0), .int (nI 0), .int (nI 0), .int (nI 0), .null, .null, .int (nI 0)]))) := w
  obtain ⟨h9, u12⟩ : ∃ z, z = pd_up h4 y (20, .inr (10, [.ref q1, .null, .null, .int (nI 0), .int (nI 0), .int (nI 0), .null, .null, .null, .null, .null, .null, .int (nI 0), .null, .null, .null, .null, .null, .null, .null, .int (nI 0), .null, .null, .null, .null, .null, .null, .null, .null, .int (nI 0), .null, .null, .int (nI 0), .int (nI 0), .int (nI 0), .int (nI 0), .long 0, .int (nI 0), .int (nI 0), .int (nI 0), .int (nI 0), .null, .null, .int (nI 0)])) := ⟨_, rfl⟩
  rw [← u12] at w
  have k10 : pd_kq y h4 h9 := by rw [u12]; exact pd_up_kq
  have f11 : h9 y = some (20, .inr (10, [.ref q1, .null, .null, .int (nI 0), .int (nI 0), .int (nI 0), .null, .null, .null, .null, .null, .null, .int (nI 0), .null, .null, .null, .null, .null, .null, .null, .int (nI 0), .null, .null, .null, .null, .null, .null, .null, .null, .int (nI 0), .null, .null, .int (nI 0), .int (nI 0), .int (nI 0), .int (nI 0), .long 0, .int (nI 0), .int (nI 0), .int (nI 0), .int (nI 0), .null, .null, .int (nI 0)])) := by rw [u12]; exact pd_up_s _ _ _
  have f13 := k10 _ _ (pd_ne f6 f8 (by simp)) f6
  refine lv_aload_n hx hb d_p15m1_12 rfl (lv_at hl 0 rfl) ?_
  refine lv_bipush (v := nI 40) hx hb d_p15m1_13 (by decide) ?_
  refine pd_newa (ty := .int) (x := (40, .inl (fun _ => 0))) 31 X w rfl mT_366 rfl rfl (by omega) (by decide) (fun _ h9 => h9) (by decide) (Nat.le_trans (Nat.add_le_add_left (by omega : 40 ≤ 40) _) (by decide)) d_p15m1_15 (fun q14 H hq15 hz16 w => ?_)
  refine W.widen (k := 2) (n := 100) (by decide) (by omega) ?_
  obtain ⟨h17, u20⟩ : ∃ z, z = pd_up h9 q14 (31, .inl (.int, 40, .inl (fun _ => 0))) := ⟨_, rfl⟩
  rw [← u20] at w
  have k18 : pd_kx [] h9 h17 := by rw [u20]; exact pd_new_kx hq15
  have f19 : h17 q14 = some (31, .inl (.int, 40, .inl (fun _ => 0))) := by rw [u20]; exact pd_up_s _ _ _
  have f21 := k18 _ _ f11 List.not_mem_nil
  have f22 := k18 _ _ f13 List.not_mem_nil
  refine pd_putF (ty := (.array .int)) X w f21 hz_y rfl 1 (by decide) mT_1140 rfl rfl hmn rfl (by decide +kernel) rfl rfl (Nat.le_of_ble_eq_true rfl) d_p15m1_17 (fun H locs w => ?_)
  have w : pd_w G s H locs (pd_up h17 y (20, .inr (10, [.ref q1, .ref q14, .null, .int (nI 0), .int (nI 0), .int (nI 0), .null, .null, .null, .null, .null, .null, .int (nI 0), .null, .null, .null, .null, .null, .null, .null, .int (nI 0), .null, .null, .null, .null, .null, .null, .null, .null, .int (nI 0), .null, .null, .int (nI 0), .int (nI 0), .int (nI 0), .int (nI 0), .long 0, .int (nI 0), .int (nI 0), .int (nI 0), .int (nI 0), .null, .null, .int (nI 0)]))) := w
  obtain ⟨h23, u26⟩ : ∃ z, z = pd_up h17 y (20, .inr (10, [.ref q1, .ref q14, .null, .int (nI 0), .int (nI 0), .int (nI 0), .null, .null, .null, .null, .null, .null, .int (nI 0), .null, .null, .null, .null, .null, .null, .null, .int (nI 0), .null, .null, .null, .null, .null, .null, .null, .null, .int (nI 0), .null, .null, .int (nI 0), .int (nI 0), .int (nI 0), .int (nI 0), .long 0, .int (nI 0), .int (nI 0), .int (nI 0), .int (nI 0), .null, .null, .int (nI 0)])) := ⟨_, rfl⟩
  rw [← u26] at w
  have k24 : pd_kq y h17 h23 := by rw [u26]; exact pd_up_kq
  have f25 : h23 y = some (20, .inr (10, [.ref q1, .ref q14, .null, .int (nI 0), .int (nI 0), .int (nI 0), .null, .null, .null, .null, .null, .null, .int (nI 0), .null, .null, .null, .null, .null, .null, .null, .int (nI 0), .null, .null, .null, .null, .null, .null, .null, .null, .int (nI 0), .null, .null, .int (nI 0), .int (nI 0), .int (nI 0), .int (nI 0), .long 0, .int (nI 0), .int (nI 0), .int (nI 0), .int (nI 0), .null, .null, .int (nI 0)])) := by rw [u26]; exact pd_up_s _ _ _
  have f27 := k24 _ _ (pd_ne f22 f21 (by simp)) f22
  have f28 := k24 _ _ (pd_ne f19 f21 (by simp)) f19
  refine lv_aload_n hx hb d_p15m1_20 rfl (lv_at hl 0 rfl) ?_
  refine lv_bipush (v := nI 40) hx hb d_p15m1_21 (by decide) ?_
  refine pd_newa (ty := .int) (x := (40, .inl (fun _ => 0))) 32 X w rfl mT_366 rfl rfl (by omega) (by decide) (fun _ h9 => h9) (by decide) (Nat.le_trans (Nat.add_le_add_left (by omega : 40 ≤ 40) _) (by decide)) d_p15m1_23 (fun q29 H hq30 hz31 w => ?_)
  refine W.widen (k := 3) (n := 140) (by decide) (by omega) ?_
  obtain ⟨h32, u35⟩ : ∃ z, z = pd_up h23 q29 (32, .inl (.int, 40, .inl (fun _ => 0))) := ⟨_, rfl⟩
  rw [← u35] at w
  have k33 : pd_kx [] h23 h32 := by rw [u35]; exact pd_new_kx hq30
  have f34 : h32 q29 = some (32, .inl (.int, 40, .inl (fun _ => 0))) := by rw [u35]; exact pd_up_s _ _ _
  have f36 := k33 _ _ f25 List.not_mem_nil
  have f37 := k33 _ _ f27 List.not_mem_nil
  have f38 := k33 _ _ f28 List.not_mem_nil
  refine pd_putF (ty := (.array .int)) X w f36 hz_y rfl 2 (by decide) mT_1141 rfl rfl hmn rfl (by decide +kernel) rfl rfl (Nat.le_of_ble_eq_true rfl) d_p15m1_25 (fun H locs w => ?_)
  have w : pd_w G s H locs (pd_up h32 y (20, .inr (10, [.ref q1, .ref q14, .ref q29, .int (nI 0), .int (nI 0), .int (nI 0), .null, .null, .null, .null, .null, .null, .int (nI 0), .null, .null, .null, .null, .null, .null, .null, .int (nI 0), .null, .null, .null, .null, .null, .null, .null, .null, .int (nI 0), .null, .null, .int (nI 0), .int (nI 0), .int (nI 0), .int (nI 0), .long 0, .int (nI 0), .int (nI 0), .int (nI 0), .int (nI 0), .null, .null, .int (nI 0)]))) := w
  obtain ⟨h39, u42⟩ : ∃ z, z = pd_up h32 y (20, .inr (10, [.ref q1, .ref q14, .ref q29, .int (nI 0), .int (nI 0), .int (nI 0), .null, .null, .null, .null, .null, .null, .int (nI 0), .null, .null, .null, .null, .null, .null, .null, .int (nI 0), .null, .null, .null, .null, .null, .null, .null, .null, .int (nI 0), .null, .null, .int (nI 0), .int (nI 0), .int (nI 0), .int (nI 0), .long 0, .int (nI 0), .int (nI 0), .int (nI 0), .int (nI 0), .null, .null, .int (nI 0)])) := ⟨_, rfl⟩
  rw [← u42] at w
  have k40 : pd_kq y h32 h39 := by rw [u42]; exact pd_up_kq
  have f41 : h39 y = some (20, .inr (10, [.ref q1, .ref q14, .ref q29, .int (nI 0), .int (nI 0), .int (nI 0), .null, .null, .null, .null, .null, .null, .int (nI 0), .null, .null, .null, .null, .null, .null, .null, .int (nI 0), .null, .null, .null, .null, .null, .null, .null, .null, .int (nI 0), .null, .null, .int (nI 0), .int (nI 0), .int (nI 0), .int (nI 0), .long 0, .int (nI 0), .int (nI 0), .int (nI 0), .int (nI 0), .null, .null, .int (nI 0)])) := by rw [u42]; exact pd_up_s _ _ _
  have f43 := k40 _ _ (pd_ne f37 f36 (by simp)) f37
  have f44 := k40 _ _ (pd_ne f38 f36 (by simp)) f38
  have f45 := k40 _ _ (pd_ne f34 f36 (by simp)) f34
  refine lv_aload_n hx hb d_p15m1_28 rfl (lv_at hl 0 rfl) ?_
  refine lv_sipush (v := nI 336) hx hb d_p15m1_29 (by decide) ?_
  refine pd_newa (ty := .int) (x := (336, .inl (fun _ => 0))) 36 X w rfl mT_366 rfl rfl (by omega) (by decide) (fun _ h9 => h9) (by decide) (Nat.le_trans (Nat.add_le_add_left (by omega : 336 ≤ 336) _) (by decide)) d_p15m1_32 (fun q46 H hq47 hz48 w => ?_)
  refine W.widen (k := 4) (n := 476) (by decide) (by omega) ?_
  obtain ⟨h49, u52⟩ : ∃ z, z = pd_up h39 q46 (36, .inl (.int, 336, .inl (fun _ => 0))) := ⟨_, rfl⟩
  rw [← u52] at w
  have k50 : pd_kx [] h39 h49 := by rw [u52]; exact pd_new_kx hq47
  have f51 : h49 q46 = some (36, .inl (.int, 336, .inl (fun _ => 0))) := by rw [u52]; exact pd_up_s _ _ _
  have f53 := k50 _ _ f41 List.not_mem_nil
  have f54 := k50 _ _ f43 List.not_mem_nil
  have f55 := k50 _ _ f44 List.not_mem_nil
  have f56 := k50 _ _ f45 List.not_mem_nil
  refine pd_putF (ty := (.array .int)) X w f53 hz_y rfl 6 (by decide) mT_1145 rfl rfl hmn rfl (by decide +kernel) rfl rfl (Nat.le_of_ble_eq_true rfl) d_p15m1_34 (fun H locs w => ?_)
  have w : pd_w G s H locs (pd_up h49 y (20, .inr (10, [.ref q1, .ref q14, .ref q29, .int (nI 0), .int (nI 0), .int (nI 0), .ref q46, .null, .null, .null, .null, .null, .int (nI 0), .null, .null, .null, .null, .null, .null, .null, .int (nI 0), .null, .null, .null, .null, .null, .null, .null, .null, .int (nI 0), .null, .null, .int (nI 0), .int (nI 0), .int (nI 0), .int (nI 0), .long 0, .int (nI 0), .int (nI 0), .int (nI 0), .int (nI 0), .null, .null, .int (nI 0)]))) := w
  obtain ⟨h57, u60⟩ : ∃ z, z = pd_up h49 y (20, .inr (10, [.ref q1, .ref q14, .ref q29, .int (nI 0), .int (nI 0), .int (nI 0), .ref q46, .null, .null, .null, .null, .null, .int (nI 0), .null, .null, .null, .null, .null, .null, .null, .int (nI 0), .null, .null, .null, .null, .null, .null, .null, .null, .int (nI 0), .null, .null, .int (nI 0), .int (nI 0), .int (nI 0), .int (nI 0), .long 0, .int (nI 0), .int (nI 0), .int (nI 0), .int (nI 0), .null, .null, .int (nI 0)])) := ⟨_, rfl⟩
  rw [← u60] at w
  have k58 : pd_kq y h49 h57 := by rw [u60]; exact pd_up_kq
  have f59 : h57 y = some (20, .inr (10, [.ref q1, .ref q14, .ref q29, .int (nI 0), .int (nI 0), .int (nI 0), .ref q46, .null, .null, .null, .null, .null, .int (nI 0), .null, .null, .null, .null, .null, .null, .null, .int (nI 0), .null, .null, .null, .null, .null, .null, .null, .null, .int (nI 0), .null, .null, .int (nI 0), .int (nI 0), .int (nI 0), .int (nI 0), .long 0, .int (nI 0), .int (nI 0), .int (nI 0), .int (nI 0), .null, .null, .int (nI 0)])) := by rw [u60]; exact pd_up_s _ _ _
  have f61 := k58 _ _ (pd_ne f54 f53 (by simp)) f54
  have f62 := k58 _ _ (pd_ne f55 f53 (by simp)) f55
  have f63 := k58 _ _ (pd_ne f56 f53 (by simp)) f56
  have f64 := k58 _ _ (pd_ne f51 f53 (by simp)) f51
  refine lv_aload_n hx hb d_p15m1_37 rfl (lv_at hl 0 rfl) ?_
  refine lv_bipush (v := nI 14) hx hb d_p15m1_38 (by decide) ?_
  refine pd_newa (ty := .int) (x := (14, .inl (fun _ => 0))) 37 X w rfl mT_366 rfl rfl (by omega) (by decide) (fun _ h9 => h9) (by decide) (Nat.le_trans (Nat.add_le_add_left (by omega : 14 ≤ 14) _) (by decide)) d_p15m1_40 (fun q65 H hq66 hz67 w => ?_)
  refine W.widen (k := 5) (n := 490) (by decide) (by omega) ?_
  obtain ⟨h68, u71⟩ : ∃ z, z = pd_up h57 q65 (37, .inl (.int, 14, .inl (fun _ => 0))) := ⟨_, rfl⟩
  rw [← u71] at w
  have k69 : pd_kx [] h57 h68 := by rw [u71]; exact pd_new_kx hq66
  have f70 : h68 q65 = some (37, .inl (.int, 14, .inl (fun _ => 0))) := by rw [u71]; exact pd_up_s _ _ _
  have f72 := k69 _ _ f59 List.not_mem_nil
  have f73 := k69 _ _ f61 List.not_mem_nil
  have f74 := k69 _ _ f62 List.not_mem_nil
  have f75 := k69 _ _ f63 List.not_mem_nil
  have f76 := k69 _ _ f64 List.not_mem_nil
  refine pd_putF (ty := (.array .int)) X w f72 hz_y rfl 7 (by decide) mT_1146 rfl rfl hmn rfl (by decide +kernel) rfl rfl (Nat.le_of_ble_eq_true rfl) d_p15m1_42 (fun H locs w => ?_)
  have w : pd_w G s H locs (pd_up h68 y (20, .inr (10, [.ref q1, .ref q14, .ref q29, .int (nI 0), .int (nI 0), .int (nI 0), .ref q46, .ref q65, .null, .null, .null, .null, .int (nI 0), .null, .null, .null, .null, .null, .null, .null, .int (nI 0), .null, .null, .null, .null, .null, .null, .null, .null, .int (nI 0), .null, .null, .int (nI 0), .int (nI 0), .int (nI 0), .int (nI 0), .long 0, .int (nI 0), .int (nI 0), .int (nI 0), .int (nI 0), .null, .null, .int (nI 0)]))) := w
  obtain ⟨h77, u80⟩ : ∃ z, z = pd_up h68 y (20, .inr (10, [.ref q1, .ref q14, .ref q29, .int (nI 0), .int (nI 0), .int (nI 0), .ref q46, .ref q65, .null, .null, .null, .null, .int (nI 0), .null, .null, .null, .null, .null, .null, .null, .int (nI 0), .null, .null, .null, .null, .null, .null, .null, .null, .int (nI 0), .null, .null, .int (nI 0), .int (nI 0), .int (nI 0), .int (nI 0), .long 0, .int (nI 0), .int (nI 0), .int (nI 0), .int (nI 0), .null, .null, .int (nI 0)])) := ⟨_, rfl⟩
  rw [← u80] at w
  have k78 : pd_kq y h68 h77 := by rw [u80]; exact pd_up_kq
  have f79 : h77 y = some (20, .inr (10, [.ref q1, .ref q14, .ref q29, .int (nI 0), .int (nI 0), .int (nI 0), .ref q46, .ref q65, .null, .null, .null, .null, .int (nI 0), .null, .null, .null, .null, .null, .null, .null, .int (nI 0), .null, .null, .null, .null, .null, .null, .null, .null, .int (nI 0), .null, .null, .int (nI 0), .int (nI 0), .int (nI 0), .int (nI 0), .long 0, .int (nI 0), .int (nI 0), .int (nI 0), .int (nI 0), .null, .null, .int (nI 0)])) := by rw [u80]; exact pd_up_s _ _ _
  have f81 := k78 _ _ (pd_ne f73 f72 (by simp)) f73
  have f82 := k78 _ _ (pd_ne f74 f72 (by simp)) f74
  have f83 := k78 _ _ (pd_ne f75 f72 (by simp)) f75
  have f84 := k78 _ _ (pd_ne f76 f72 (by simp)) f76
  have f85 := k78 _ _ (pd_ne f70 f72 (by simp)) f70
  refine lv_aload_n hx hb d_p15m1_45 rfl (lv_at hl 0 rfl) ?_
  refine lv_bipush (v := nI 14) hx hb d_p15m1_46 (by decide) ?_
  refine pd_newa (ty := .int) (x := (14, .inl (fun _ => 0))) 38 X w rfl mT_366 rfl rfl (by omega) (by decide) (fun _ h9 => h9) (by decide) (Nat.le_trans (Nat.add_le_add_left (by omega : 14 ≤ 14) _) (by decide)) d_p15m1_48 (fun q86 H hq87 hz88 w => ?_)
  refine W.widen (k := 6) (n := 504) (by decide) (by omega) ?_
  obtain ⟨h89, u92⟩ : ∃ z, z = pd_up h77 q86 (38, .inl (.int, 14, .inl (fun _ => 0))) := ⟨_, rfl⟩
  rw [← u92] at w
  have k90 : pd_kx [] h77 h89 := by rw [u92]; exact pd_new_kx hq87
  have f91 : h89 q86 = some (38, .inl (.int, 14, .inl (fun _ => 0))) := by rw [u92]; exact pd_up_s _ _ _
  have f93 := k90 _ _ f79 List.not_mem_nil
  have f94 := k90 _ _ f81 List.not_mem_nil
  have f95 := k90 _ _ f82 List.not_mem_nil
  have f96 := k90 _ _ f83 List.not_mem_nil
  have f97 := k90 _ _ f84 List.not_mem_nil
  have f98 := k90 _ _ f85 List.not_mem_nil
  refine pd_putF (ty := (.array .int)) X w f93 hz_y rfl 8 (by decide) mT_1147 rfl rfl hmn rfl (by decide +kernel) rfl rfl (Nat.le_of_ble_eq_true rfl) d_p15m1_50 (fun H locs w => ?_)
  have w : pd_w G s H locs (pd_up h89 y (20, .inr (10, [.ref q1, .ref q14, .ref q29, .int (nI 0), .int (nI 0), .int (nI 0), .ref q46, .ref q65, .ref q86, .null, .null, .null, .int (nI 0), .null, .null, .null, .null, .null, .null, .null, .int (nI 0), .null, .null, .null, .null, .null, .null, .null, .null, .int (nI 0), .null, .null, .int (nI 0), .int (nI 0), .int (nI 0), .int (nI 0), .long 0, .int (nI 0), .int (nI 0), .int (nI 0), .int (nI 0), .null, .null, .int (nI 0)]))) := w
  obtain ⟨h99, u102⟩ : ∃ z, z = pd_up h89 y (20, .inr (10, [.ref q1, .ref q14, .ref q29, .int (nI 0), .int (nI 0), .int (nI 0), .ref q46, .ref q65, .ref q86, .null, .null, .null, .int (nI 0), .null, .null, .null, .null, .null, .null, .null, .int (nI 0), .null, .null, .null, .null, .null, .null, .null, .null, .int (nI 0), .null, .null, .int (nI 0), .int (nI 0), .int (nI 0), .int (nI 0), .long 0, .int (nI 0), .int (nI 0), .int (nI 0), .int (nI 0), .null, .null, .int (nI 0)])) := ⟨_, rfl⟩
  rw [← u102] at w
  have k100 : pd_kq y h89 h99 := by rw [u102]; exact pd_up_kq
  have f101 : h99 y = some (20, .inr (10, [.ref q1, .ref q14, .ref q29, .int (nI 0), .int (nI 0), .int (nI 0), .ref q46, .ref q65, .ref q86, .null, .null, .null, .int (nI 0), .null, .null, .null, .null, .null, .null, .null, .int (nI 0), .null, .null, .null, .null, .null, .null, .null, .null, .int (nI 0), .null, .null, .int (nI 0), .int (nI 0), .int (nI 0), .int (nI 0), .long 0, .int (nI 0), .int (nI 0), .int (nI 0), .int (nI 0), .null, .null, .int (nI 0)])) := by rw [u102]; exact pd_up_s _ _ _
  have f103 := k100 _ _ (pd_ne f94 f93 (by simp)) f94
  have f104 := k100 _ _ (pd_ne f95 f93 (by simp)) f95
  have f105 := k100 _ _ (pd_ne f96 f93 (by simp)) f96
  have f106 := k100 _ _ (pd_ne f97 f93 (by simp)) f97
  have f107 := k100 _ _ (pd_ne f98 f93 (by simp)) f98
  have f108 := k100 _ _ (pd_ne f91 f93 (by simp)) f91
  refine lv_aload_n hx hb d_p15m1_53 rfl (lv_at hl 0 rfl) ?_
  refine lv_bipush (v := nI 28) hx hb d_p15m1_54 (by decide) ?_
  refine pd_newa (ty := .int) (x := (28, .inl (fun _ => 0))) 39 X w rfl mT_366 rfl rfl (by omega) (by decide) (fun _ h9 => h9) (by decide) (Nat.le_trans (Nat.add_le_add_left (by omega : 28 ≤ 28) _) (by decide)) d_p15m1_56 (fun q109 H hq110 hz111 w => ?_)
  refine W.widen (k := 7) (n := 532) (by decide) (by omega) ?_
  obtain ⟨h112, u115⟩ : ∃ z, z = pd_up h99 q109 (39, .inl (.int, 28, .inl (fun _ => 0))) := ⟨_, rfl⟩
  rw [← u115] at w
  have k113 : pd_kx [] h99 h112 := by rw [u115]; exact pd_new_kx hq110
  have f114 : h112 q109 = some (39, .inl (.int, 28, .inl (fun _ => 0))) := by rw [u115]; exact pd_up_s _ _ _
  have f116 := k113 _ _ f101 List.not_mem_nil
  have f117 := k113 _ _ f103 List.not_mem_nil
  have f118 := k113 _ _ f104 List.not_mem_nil
  have f119 := k113 _ _ f105 List.not_mem_nil
  have f120 := k113 _ _ f106 List.not_mem_nil
  have f121 := k113 _ _ f107 List.not_mem_nil
  have f122 := k113 _ _ f108 List.not_mem_nil
  refine pd_putF (ty := (.array .int)) X w f116 hz_y rfl 9 (by decide) mT_1148 rfl rfl hmn rfl (by decide +kernel) rfl rfl (Nat.le_of_ble_eq_true rfl) d_p15m1_58 (fun H locs w => ?_)
  have w : pd_w G s H locs (pd_up h112 y (20, .inr (10, [.ref q1, .ref q14, .ref q29, .int (nI 0), .int (nI 0), .int (nI 0), .ref q46, .ref q65, .ref q86, .ref q109, .null, .null, .int (nI 0), .null, .null, .null, .null, .null, .null, .null, .int (nI 0), .null, .null, .null, .null, .null, .null, .null, .null, .int (nI 0), .null, .null, .int (nI 0), .int (nI 0), .int (nI 0), .int (nI 0), .long 0, .int (nI 0), .int (nI 0), .int (nI 0), .int (nI 0), .null, .null, .int (nI 0)]))) := w
  obtain ⟨h123, u126⟩ : ∃ z, z = pd_up h112 y (20, .inr (10, [.ref q1, .ref q14, .ref q29, .int (nI 0), .int (nI 0), .int (nI 0), .ref q46, .ref q65, .ref q86, .ref q109, .null, .null, .int (nI 0), .null, .null, .null, .null, .null, .null, .null, .int (nI 0), .null, .null, .null, .null, .null, .null, .null, .null, .int (nI 0), .null, .null, .int (nI 0), .int (nI 0), .int (nI 0), .int (nI 0), .long 0, .int (nI 0), .int (nI 0), .int (nI 0), .int (nI 0), .null, .null, .int (nI 0)])) := ⟨_, rfl⟩
  rw [← u126] at w
  have k124 : pd_kq y h112 h123 := by rw [u126]; exact pd_up_kq
  have f125 : h123 y = some (20, .inr (10, [.ref q1, .ref q14, .ref q29, .int (nI 0), .int (nI 0), .int (nI 0), .ref q46, .ref q65, .ref q86, .ref q109, .null, .null, .int (nI 0), .null, .null, .null, .null, .null, .null, .null, .int (nI 0), .null, .null, .null, .null, .null, .null, .null, .null, .int (nI 0), .null, .null, .int (nI 0), .int (nI 0), .int (nI 0), .int (nI 0), .long 0, .int (nI 0), .int (nI 0), .int (nI 0), .int (nI 0), .null, .null, .int (nI 0)])) := by rw [u126]; exact pd_up_s _ _ _
  have f127 := k124 _ _ (pd_ne f117 f116 (by simp)) f117
  have f128 := k124 _ _ (pd_ne f118 f116 (by simp)) f118
  have f129 := k124 _ _ (pd_ne f119 f116 (by simp)) f119
  have f130 := k124 _ _ (pd_ne f120 f116 (by simp)) f120
  have f131 := k124 _ _ (pd_ne f121 f116 (by simp)) f121
  have f132 := k124 _ _ (pd_ne f122 f116 (by simp)) f122
  have f133 := k124 _ _ (pd_ne f114 f116 (by simp)) f114
  refine lv_aload_n hx hb d_p15m1_61 rfl (lv_at hl 0 rfl) ?_
  refine lv_bipush (v := nI 14) hx hb d_p15m1_62 (by decide) ?_
  refine pd_newa (ty := .int) (x := (14, .inl (fun _ => 0))) 40 X w rfl mT_366 rfl rfl (by omega) (by decide) (fun _ h9 => h9) (by decide) (Nat.le_trans (Nat.add_le_add_left (by omega : 14 ≤ 14) _) (by decide)) d_p15m1_64 (fun q134 H hq135 hz136 w => ?_)
  refine W.widen (k := 8) (n := 546) (by decide) (by omega) ?_
  obtain ⟨h137, u140⟩ : ∃ z, z = pd_up h123 q134 (40, .inl (.int, 14, .inl (fun _ => 0))) := ⟨_, rfl⟩
  rw [← u140] at w
  have k138 : pd_kx [] h123 h137 := by rw [u140]; exact pd_new_kx hq135
  have f139 : h137 q134 = some (40, .inl (.int, 14, .inl (fun _ => 0))) := by rw [u140]; exact pd_up_s _ _ _
  have f141 := k138 _ _ f125 List.not_mem_nil
  have f142 := k138 _ _ f127 List.not_mem_nil
  have f143 := k138 _ _ f128 List.not_mem_nil
  have f144 := k138 _ _ f129 List.not_mem_nil
  have f145 := k138 _ _ f130 List.not_mem_nil
  have f146 := k138 _ _ f131 List.not_mem_nil
  have f147 := k138 _ _ f132 List.not_mem_nil
  have f148 := k138 _ _ f133 List.not_mem_nil
  refine pd_putF (ty := (.array .int)) X w f141 hz_y rfl 10 (by decide) mT_1149 rfl rfl hmn rfl (by decide +kernel) rfl rfl (Nat.le_of_ble_eq_true rfl) d_p15m1_66 (fun H locs w => ?_)
  have w : pd_w G s H locs (pd_up h137 y (20, .inr (10, [.ref q1, .ref q14, .ref q29, .int (nI 0), .int (nI 0), .int (nI 0), .ref q46, .ref q65, .ref q86, .ref q109, .ref q134, .null, .int (nI 0), .null, .null, .null, .null, .null, .null, .null, .int (nI 0), .null, .null, .null, .null, .null, .null, .null, .null, .int (nI 0), .null, .null, .int (nI 0), .int (nI 0), .int (nI 0), .int (nI 0), .long 0, .int (nI 0), .int (nI 0), .int (nI 0), .int (nI 0), .null, .null, .int (nI 0)]))) := w
  obtain ⟨h149, u152⟩ : ∃ z, z = pd_up h137 y (20, .inr (10, [.ref q1, .ref q14, .ref q29, .int (nI 0), .int (nI 0), .int (nI 0), .ref q46, .ref q65, .ref q86, .ref q109, .ref q134, .null, .int (nI 0), .null, .null, .null, .null, .null, .null, .null, .int (nI 0), .null, .null, .null, .null, .null, .null, .null, .null, .int (nI 0), .null, .null, .int (nI 0), .int (nI 0), .int (nI 0), .int (nI 0), .long 0, .int (nI 0), .int (nI 0), .int (nI 0), .int (nI 0), .null, .null, .int (nI 0)])) := ⟨_, rfl⟩
  rw [← u152] at w
  have k150 : pd_kq y h137 h149 := by rw [u152]; exact pd_up_kq
  have f151 : h149 y = some (20, .inr (10, [.ref q1, .ref q14, .ref q29, .int (nI 0), .int (nI 0), .int (nI 0), .ref q46, .ref q65, .ref q86, .ref q109, .ref q134, .null, .int (nI 0), .null, .null, .null, .null, .null, .null, .null, .int (nI 0), .null, .null, .null, .null, .null, .null, .null, .null, .int (nI 0), .null, .null, .int (nI 0), .int (nI 0), .int (nI 0), .int (nI 0), .long 0, .int (nI 0), .int (nI 0), .int (nI 0), .int (nI 0), .null, .null, .int (nI 0)])) := by rw [u152]; exact pd_up_s _ _ _
  have f153 := k150 _ _ (pd_ne f142 f141 (by simp)) f142
  have f154 := k150 _ _ (pd_ne f143 f141 (by simp)) f143
  have f155 := k150 _ _ (pd_ne f144 f141 (by simp)) f144
  have f156 := k150 _ _ (pd_ne f145 f141 (by simp)) f145
  have f157 := k150 _ _ (pd_ne f146 f141 (by simp)) f146
  have f158 := k150 _ _ (pd_ne f147 f141 (by simp)) f147
  have f159 := k150 _ _ (pd_ne f148 f141 (by simp)) f148
  have f160 := k150 _ _ (pd_ne f139 f141 (by simp)) f139
  refine lv_aload_n hx hb d_p15m1_69 rfl (lv_at hl 0 rfl) ?_
  refine lv_bipush (v := nI 14) hx hb d_p15m1_70 (by decide) ?_
  refine pd_newa (ty := .boolean) (x := (14, .inl (fun _ => 0))) 41 X w rfl mT_1272 rfl rfl (by omega) (by decide) (fun _ h9 => h9) (by decide) (Nat.le_trans (Nat.add_le_add_left (by omega : 14 ≤ 14) _) (by decide)) d_p15m1_72 (fun q161 H hq162 hz163 w => ?_)
  refine W.widen (k := 9) (n := 560) (by decide) (by omega) ?_
  obtain ⟨h164, u167⟩ : ∃ z, z = pd_up h149 q161 (41, .inl (.boolean, 14, .inl (fun _ => 0))) := ⟨_, rfl⟩
  rw [← u167] at w
  have k165 : pd_kx [] h149 h164 := by rw [u167]; exact pd_new_kx hq162
  have f166 : h164 q161 = some (41, .inl (.boolean, 14, .inl (fun _ => 0))) := by rw [u167]; exact pd_up_s _ _ _
  have f168 := k165 _ _ f151 List.not_mem_nil
  have f169 := k165 _ _ f153 List.not_mem_nil
  have f170 := k165 _ _ f154 List.not_mem_nil
  have f171 := k165 _ _ f155 List.not_mem_nil
  have f172 := k165 _ _ f156 List.not_mem_nil
  have f173 := k165 _ _ f157 List.not_mem_nil
  have f174 := k165 _ _ f158 List.not_mem_nil
  have f175 := k165 _ _ f159 List.not_mem_nil
  have f176 := k165 _ _ f160 List.not_mem_nil
  refine pd_putF (ty := (.array .boolean)) X w f168 hz_y rfl 11 (by decide) mT_1150 rfl rfl hmn rfl (by decide +kernel) rfl rfl (Nat.le_of_ble_eq_true rfl) d_p15m1_74 (fun H locs w => ?_)
  have w : pd_w G s H locs (pd_up h164 y (20, .inr (10, [.ref q1, .ref q14, .ref q29, .int (nI 0), .int (nI 0), .int (nI 0), .ref q46, .ref q65, .ref q86, .ref q109, .ref q134, .ref q161, .int (nI 0), .null, .null, .null, .null, .null, .null, .null, .int (nI 0), .null, .null, .null, .null, .null, .null, .null, .null, .int (nI 0), .null, .null, .int (nI 0), .int (nI 0), .int (nI 0), .int (nI 0), .long 0, .int (nI 0), .int (nI 0), .int (nI 0), .int (nI 0), .null, .null, .int (nI 0)]))) := w
  obtain ⟨h177, u180⟩ : ∃ z, z = pd_up h164 y (20, .inr (10, [.ref q1, .ref q14, .ref q29, .int (nI 0), .int (nI 0), .int (nI 0), .ref q46, .ref q65, .ref q86, .ref q109, .ref q134, .ref q161, .int (nI 0), .null, .null, .null, .null, .null, .null, .null, .int (nI 0), .null, .null, .null, .null, .null, .null, .null, .null, .int (nI 0), .null, .null, .int (nI 0), .int (nI 0), .int (nI 0), .int (nI 0), .long 0, .int (nI 0), .int (nI 0), .int (nI 0), .int (nI 0), .null, .null, .int (nI 0)])) := ⟨_, rfl⟩
  rw [← u180] at w
  have k178 : pd_kq y h164 h177 := by rw [u180]; exact pd_up_kq
  have f179 : h177 y = some (20, .inr (10, [.ref q1, .ref q14, .ref q29, .int (nI 0), .int (nI 0), .int (nI 0), .ref q46, .ref q65, .ref q86, .ref q109, .ref q134, .ref q161, .int (nI 0), .null, .null, .null, .null, .null, .null, .null, .int (nI 0), .null, .null, .null, .null, .null, .null, .null, .null, .int (nI 0), .null, .null, .int (nI 0), .int (nI 0), .int (nI 0), .int (nI 0), .long 0, .int (nI 0), .int (nI 0), .int (nI 0), .int (nI 0), .null, .null, .int (nI 0)])) := by rw [u180]; exact pd_up_s _ _ _
  have f181 := k178 _ _ (pd_ne f169 f168 (by simp)) f169
  have f182 := k178 _ _ (pd_ne f170 f168 (by simp)) f170
  have f183 := k178 _ _ (pd_ne f171 f168 (by simp)) f171
  have f184 := k178 _ _ (pd_ne f172 f168 (by simp)) f172
  have f185 := k178 _ _ (pd_ne f173 f168 (by simp)) f173
  have f186 := k178 _ _ (pd_ne f174 f168 (by simp)) f174
  have f187 := k178 _ _ (pd_ne f175 f168 (by simp)) f175
  have f188 := k178 _ _ (pd_ne f176 f168 (by simp)) f176
  have f189 := k178 _ _ (pd_ne f166 f168 (by simp)) f166
  refine lv_aload_n hx hb d_p15m1_77 rfl (lv_at hl 0 rfl) ?_
  refine lv_iconst (v := nI 2) hx hb d_p15m1_78 (by decide) ?_
  refine pd_put (ty := .int) X w f179 hz_y rfl 12 (by decide) mT_1151 rfl rfl (by decide +kernel) rfl rfl (Nat.le_of_ble_eq_true rfl) d_p15m1_79 (fun H locs w => ?_)
  have w : pd_w G s H locs (pd_up h177 y (20, .inr (10, [.ref q1, .ref q14, .ref q29, .int (nI 0), .int (nI 0), .int (nI 0), .ref q46, .ref q65, .ref q86, .ref q109, .ref q134, .ref q161, .int (nI 2), .null, .null, .null, .null, .null, .null, .null, .int (nI 0), .null, .null, .null, .null, .null, .null, .null, .null, .int (nI 0), .null, .null, .int (nI 0), .int (nI 0), .int (nI 0), .int (nI 0), .long 0, .int (nI 0), .int (nI 0), .int (nI 0), .int (nI 0), .null, .null, .int (nI 0)]))) := w
  obtain ⟨h190, u193⟩ : ∃ z, z = pd_up h177 y (20, .inr (10, [.ref q1, .ref q14, .ref q29, .int (nI 0), .int (nI 0), .int (nI 0), .ref q46, .ref q65, .ref q86, .ref q109, .ref q134, .ref q161, .int (nI 2), .null, .null, .null, .null, .null, .null, .null, .int (nI 0), .null, .null, .null, .null, .null, .null, .null, .null, .int (nI 0), .null, .null, .int (nI 0), .int (nI 0), .int (nI 0), .int (nI 0), .long 0, .int (nI 0), .int (nI 0), .int (nI 0), .int (nI 0), .null, .null, .int (nI 0)])) := ⟨_, rfl⟩
  rw [← u193] at w
  have k191 : pd_kq y h177 h190 := by rw [u193]; exact pd_up_kq
  have f192 : h190 y = some (20, .inr (10, [.ref q1, .ref q14, .ref q29, .int (nI 0), .int (nI 0), .int (nI 0), .ref q46, .ref q65, .ref q86, .ref q109, .ref q134, .ref q161, .int (nI 2), .null, .null, .null, .null, .null, .null, .null, .int (nI 0), .null, .null, .null, .null, .null, .null, .null, .null, .int (nI 0), .null, .null, .int (nI 0), .int (nI 0), .int (nI 0), .int (nI 0), .long 0, .int (nI 0), .int (nI 0), .int (nI 0), .int (nI 0), .null, .null, .int (nI 0)])) := by rw [u193]; exact pd_up_s _ _ _
  have f194 := k191 _ _ (pd_ne f181 f179 (by simp)) f181
  have f195 := k191 _ _ (pd_ne f182 f179 (by simp)) f182
  have f196 := k191 _ _ (pd_ne f183 f179 (by simp)) f183
  have f197 := k191 _ _ (pd_ne f184 f179 (by simp)) f184
  have f198 := k191 _ _ (pd_ne f185 f179 (by simp)) f185
  have f199 := k191 _ _ (pd_ne f186 f179 (by simp)) f186
  have f200 := k191 _ _ (pd_ne f187 f179 (by simp)) f187
  have f201 := k191 _ _ (pd_ne f188 f179 (by simp)) f188
  have f202 := k191 _ _ (pd_ne f189 f179 (by simp)) f189
  refine lv_aload_n hx hb d_p15m1_82 rfl (lv_at hl 0 rfl) ?_
  refine lv_bipush (v := nI 24) hx hb d_p15m1_83 (by decide) ?_
  refine pd_newa (ty := .int) (x := (24, .inl (fun _ => 0))) 43 X w rfl mT_366 rfl rfl (by omega) (by decide) (fun _ h9 => h9) (by decide) (Nat.le_trans (Nat.add_le_add_left (by omega : 24 ≤ 24) _) (by decide)) d_p15m1_85 (fun q203 H hq204 hz205 w => ?_)
  refine W.widen (k := 10) (n := 584) (by decide) (by omega) ?_
  obtain ⟨h206, u209⟩ : ∃ z, z = pd_up h190 q203 (43, .inl (.int, 24, .inl (fun _ => 0))) := ⟨_, rfl⟩
  rw [← u209] at w
  have k207 : pd_kx [] h190 h206 := by rw [u209]; exact pd_new_kx hq204
  have f208 : h206 q203 = some (43, .inl (.int, 24, .inl (fun _ => 0))) := by rw [u209]; exact pd_up_s _ _ _
  have f210 := k207 _ _ f192 List.not_mem_nil
  have f211 := k207 _ _ f194 List.not_mem_nil
  have f212 := k207 _ _ f195 List.not_mem_nil
  have f213 := k207 _ _ f196 List.not_mem_nil
  have f214 := k207 _ _ f197 List.not_mem_nil
  have f215 := k207 _ _ f198 List.not_mem_nil
  have f216 := k207 _ _ f199 List.not_mem_nil
  have f217 := k207 _ _ f200 List.not_mem_nil
  have f218 := k207 _ _ f201 List.not_mem_nil
  have f219 := k207 _ _ f202 List.not_mem_nil
  refine pd_putF (ty := (.array .int)) X w f210 hz_y rfl 13 (by decide) mT_1152 rfl rfl hmn rfl (by decide +kernel) rfl rfl (Nat.le_of_ble_eq_true rfl) d_p15m1_87 (fun H locs w => ?_)
  have w : pd_w G s H locs (pd_up h206 y (20, .inr (10, [.ref q1, .ref q14, .ref q29, .int (nI 0), .int (nI 0), .int (nI 0), .ref q46, .ref q65, .ref q86, .ref q109, .ref q134, .ref q161, .int (nI 2), .ref q203, .null, .null, .null, .null, .null, .null, .int (nI 0), .null, .null, .null, .null, .null, .null, .null, .null, .int (nI 0), .null, .null, .int (nI 0), .int (nI 0), .int (nI 0), .int (nI 0), .long 0, .int (nI 0), .int (nI 0), .int (nI 0), .int (nI 0), .null, .null, .int (nI 0)]))) := w
  obtain ⟨h220, u223⟩ : ∃ z, z = pd_up h206 y (20, .inr (10, [.ref q1, .ref q14, .ref q29, .int (nI 0), .int (nI 0), .int (nI 0), .ref q46, .ref q65, .ref q86, .ref q109, .ref q134, .ref q161, .int (nI 2), .ref q203, .null, .null, .null, .null, .null, .null, .int (nI 0), .null, .null, .null, .null, .null, .null, .null, .null, .int (nI 0), .null, .null, .int (nI 0), .int (nI 0), .int (nI 0), .int (nI 0), .long 0, .int (nI 0), .int (nI 0), .int (nI 0), .int (nI 0), .null, .null, .int (nI 0)])) := ⟨_, rfl⟩
  rw [← u223] at w
  have k221 : pd_kq y h206 h220 := by rw [u223]; exact pd_up_kq
  have f222 : h220 y = some (20, .inr (10, [.ref q1, .ref q14, .ref q29, .int (nI 0), .int (nI 0), .int (nI 0), .ref q46, .ref q65, .ref q86, .ref q109, .ref q134, .ref q161, .int (nI 2), .ref q203, .null, .null, .null, .null, .null, .null, .int (nI 0), .null, .null, .null, .null, .null, .null, .null, .null, .int (nI 0), .null, .null, .int (nI 0), .int (nI 0), .int (nI 0), .int (nI 0), .long 0, .int (nI 0), .int (nI 0), .int (nI 0), .int (nI 0), .null, .null, .int (nI 0)])) := by rw [u223]; exact pd_up_s _ _ _
  have f224 := k221 _ _ (pd_ne f211 f210 (by simp)) f211
  have f225 := k221 _ _ (pd_ne f212 f210 (by simp)) f212
  have f226 := k221 _ _ (pd_ne f213 f210 (by simp)) f213
  have f227 := k221 _ _ (pd_ne f214 f210 (by simp)) f214
  have f228 := k221 _ _ (pd_ne f215 f210 (by simp)) f215
  have f229 := k221 _ _ (pd_ne f216 f210 (by simp)) f216
  have f230 := k221 _ _ (pd_ne f217 f210 (by simp)) f217
  have f231 := k221 _ _ (pd_ne f218 f210 (by simp)) f218
  have f232 := k221 _ _ (pd_ne f219 f210 (by simp)) f219
  have f233 := k221 _ _ (pd_ne f208 f210 (by simp)) f208
  refine lv_aload_n hx hb d_p15m1_90 rfl (lv_at hl 0 rfl) ?_
  refine lv_bipush (v := nI 24) hx hb d_p15m1_91 (by decide) ?_
  refine pd_newa (ty := .int) (x := (24, .inl (fun _ => 0))) 44 X w rfl mT_366 rfl rfl (by omega) (by decide) (fun _ h9 => h9) (by decide) (Nat.le_trans (Nat.add_le_add_left (by omega : 24 ≤ 24) _) (by decide)) d_p15m1_93 (fun q234 H hq235 hz236 w => ?_)
  refine W.widen (k := 11) (n := 608) (by decide) (by omega) ?_
  obtain ⟨h237, u240⟩ : ∃ z, z = pd_up h220 q234 (44, .inl (.int, 24, .inl (fun _ => 0))) := ⟨_, rfl⟩
  rw [← u240] at w
  have k238 : pd_kx [] h220 h237 := by rw [u240]; exact pd_new_kx hq235
  have f239 : h237 q234 = some (44, .inl (.int, 24, .inl (fun _ => 0))) := by rw [u240]; exact pd_up_s _ _ _
  have f241 := k238 _ _ f222 List.not_mem_nil
  have f242 := k238 _ _ f224 List.not_mem_nil
  have f243 := k238 _ _ f225 List.not_mem_nil
  have f244 := k238 _ _ f226 List.not_mem_nil
  have f245 := k238 _ _ f227 List.not_mem_nil
  have f246 := k238 _ _ f228 List.not_mem_nil
  have f247 := k238 _ _ f229 List.not_mem_nil
  have f248 := k238 _ _ f230 List.not_mem_nil
  have f249 := k238 _ _ f231 List.not_mem_nil
  have f250 := k238 _ _ f232 List.not_mem_nil
  have f251 := k238 _ _ f233 List.not_mem_nil
  refine pd_putF (ty := (.array .int)) X w f241 hz_y rfl 14 (by decide) mT_1153 rfl rfl hmn rfl (by decide +kernel) rfl rfl (Nat.le_of_ble_eq_true rfl) d_p15m1_95 (fun H locs w => ?_)
  have w : pd_w G s H locs (pd_up h237 y (20, .inr (10, [.ref q1, .ref q14, .ref q29, .int (nI 0), .int (nI 0), .int (nI 0), .ref q46, .ref q65, .ref q86, .ref q109, .ref q134, .ref q161, .int (nI 2), .ref q203, .ref q234, .null, .null, .null, .null, .null, .int (nI 0), .null, .null, .null, .null, .null, .null, .null, .null, .int (nI 0), .null, .null, .int (nI 0), .int (nI 0), .int (nI 0), .int (nI 0), .long 0, .int (nI 0), .int (nI 0), .int (nI 0), .int (nI 0), .null, .null, .int (nI 0)]))) := w
  obtain ⟨h252, u255⟩ : ∃ z, z = pd_up h237 y (20, .inr (10, [.ref q1, .ref q14, .ref q29, .int (nI 0), .int (nI 0), .int (nI 0), .ref q46, .ref q65, .ref q86, .ref q109, .ref q134, .ref q161, .int (nI 2), .ref q203, .ref q234, .null, .null, .null, .null, .null, .int (nI 0), .null, .null, .null, .null, .null, .null, .null, .null, .int (nI 0), .null, .null, .int (nI 0), .int (nI 0), .int (nI 0), .int (nI 0), .long 0, .int (nI 0), .int (nI 0), .int (nI 0), .int (nI 0), .null, .null, .int (nI 0)])) := ⟨_, rfl⟩
  rw [← u255] at w
  have k253 : pd_kq y h237 h252 := by rw [u255]; exact pd_up_kq
  have f254 : h252 y = some (20, .inr (10, [.ref q1, .ref q14, .ref q29, .int (nI 0), .int (nI 0), .int (nI 0), .ref q46, .ref q65, .ref q86, .ref q109, .ref q134, .ref q161, .int (nI 2), .ref q203, .ref q234, .null, .null, .null, .null, .null, .int (nI 0), .null, .null, .null, .null, .null, .null, .null, .null, .int (nI 0), .null, .null, .int (nI 0), .int (nI 0), .int (nI 0), .int (nI 0), .long 0, .int (nI 0), .int (nI 0), .int (nI 0), .int (nI 0), .null, .null, .int (nI 0)])) := by rw [u255]; exact pd_up_s _ _ _
  have f256 := k253 _ _ (pd_ne f242 f241 (by simp)) f242
  have f257 := k253 _ _ (pd_ne f243 f241 (by simp)) f243
  have f258 := k253 _ _ (pd_ne f244 f241 (by simp)) f244
  have f259 := k253 _ _ (pd_ne f245 f241 (by simp)) f245
  have f260 := k253 _ _ (pd_ne f246 f241 (by simp)) f246
  have f261 := k253 _ _ (pd_ne f247 f241 (by simp)) f247
  have f262 := k253 _ _ (pd_ne f248 f241 (by simp)) f248
  have f263 := k253 _ _ (pd_ne f249 f241 (by simp)) f249
  have f264 := k253 _ _ (pd_ne f250 f241 (by simp)) f250
  have f265 := k253 _ _ (pd_ne f251 f241 (by simp)) f251
  have f266 := k253 _ _ (pd_ne f239 f241 (by simp)) f239
  refine lv_aload_n hx hb d_p15m1_98 rfl (lv_at hl 0 rfl) ?_
  refine lv_sipush (v := nI 288) hx hb d_p15m1_99 (by decide) ?_
  refine pd_newa (ty := .int) (x := (288, .inl (fun _ => 0))) 45 X w rfl mT_366 rfl rfl (by omega) (by decide) (fun _ h9 => h9) (by decide) (Nat.le_trans (Nat.add_le_add_left (by omega : 288 ≤ 288) _) (by decide)) d_p15m1_102 (fun q267 H hq268 hz269 w => ?_)
  refine W.widen (k := 12) (n := 896) (by decide) (by omega) ?_
  obtain ⟨h270, u273⟩ : ∃ z, z = pd_up h252 q267 (45, .inl (.int, 288, .inl (fun _ => 0))) := ⟨_, rfl⟩
  rw [← u273] at w
  have k271 : pd_kx [] h252 h270 := by rw [u273]; exact pd_new_kx hq268
  have f272 : h270 q267 = some (45, .inl (.int, 288, .inl (fun _ => 0))) := by rw [u273]; exact pd_up_s _ _ _
  have f274 := k271 _ _ f254 List.not_mem_nil
  have f275 := k271 _ _ f256 List.not_mem_nil
  have f276 := k271 _ _ f257 List.not_mem_nil
  have f277 := k271 _ _ f258 List.not_mem_nil
  have f278 := k271 _ _ f259 List.not_mem_nil
  have f279 := k271 _ _ f260 List.not_mem_nil
  have f280 := k271 _ _ f261 List.not_mem_nil
  have f281 := k271 _ _ f262 List.not_mem_nil
  have f282 := k271 _ _ f263 List.not_mem_nil
  have f283 := k271 _ _ f264 List.not_mem_nil
  have f284 := k271 _ _ f265 List.not_mem_nil
  have f285 := k271 _ _ f266 List.not_mem_nil
  refine pd_putF (ty := (.array .int)) X w f274 hz_y rfl 15 (by decide) mT_1154 rfl rfl hmn rfl (by decide +kernel) rfl rfl (Nat.le_of_ble_eq_true rfl) d_p15m1_104 (fun H locs w => ?_)
  have w : pd_w G s H locs (pd_up h270 y (20, .inr (10, [.ref q1, .ref q14, .ref q29, .int (nI 0), .int (nI 0), .int (nI 0), .ref q46, .ref q65, .ref q86, .ref q109, .ref q134, .ref q161, .int (nI 2), .ref q203, .ref q234, .ref q267, .null, .null, .null, .null, .int (nI 0), .null, .null, .null, .null, .null, .null, .null, .null, .int (nI 0), .null, .null, .int (nI 0), .int (nI 0), .int (nI 0), .int (nI 0), .long 0, .int (nI 0), .int (nI 0), .int (nI 0), .int (nI 0), .null, .null, .int (nI 0)]))) := w
  obtain ⟨h286, u289⟩ : ∃ z, z = pd_up h270 y (20, .inr (10, [.ref q1, .ref q14, .ref q29, .int (nI 0), .int (nI 0), .int (nI 0), .ref q46, .ref q65, .ref q86, .ref q109, .ref q134, .ref q161, .int (nI 2), .ref q203, .ref q234, .ref q267, .null, .null, .null, .null, .int (nI 0), .null, .null, .null, .null, .null, .null, .null, .null, .int (nI 0), .null, .null, .int (nI 0), .int (nI 0), .int (nI 0), .int (nI 0), .long 0, .int (nI 0), .int (nI 0), .int (nI 0), .int (nI 0), .null, .null, .int (nI 0)])) := ⟨_, rfl⟩
  rw [← u289] at w
  have k287 : pd_kq y h270 h286 := by rw [u289]; exact pd_up_kq
  have f288 : h286 y = some (20, .inr (10, [.ref q1, .ref q14, .ref q29, .int (nI 0), .int (nI 0), .int (nI 0), .ref q46, .ref q65, .ref q86, .ref q109, .ref q134, .ref q161, .int (nI 2), .ref q203, .ref q234, .ref q267, .null, .null, .null, .null, .int (nI 0), .null, .null, .null, .null, .null, .null, .null, .null, .int (nI 0), .null, .null, .int (nI 0), .int (nI 0), .int (nI 0), .int (nI 0), .long 0, .int (nI 0), .int (nI 0), .int (nI 0), .int (nI 0), .null, .null, .int (nI 0)])) := by rw [u289]; exact pd_up_s _ _ _
  have f290 := k287 _ _ (pd_ne f275 f274 (by simp)) f275
  have f291 := k287 _ _ (pd_ne f276 f274 (by simp)) f276
  have f292 := k287 _ _ (pd_ne f277 f274 (by simp)) f277
  have f293 := k287 _ _ (pd_ne f278 f274 (by simp)) f278
  have f294 := k287 _ _ (pd_ne f279 f274 (by simp)) f279
  have f295 := k287 _ _ (pd_ne f280 f274 (by simp)) f280
  have f296 := k287 _ _ (pd_ne f281 f274 (by simp)) f281
  have f297 := k287 _ _ (pd_ne f282 f274 (by simp)) f282
  have f298 := k287 _ _ (pd_ne f283 f274 (by simp)) f283
  have f299 := k287 _ _ (pd_ne f284 f274 (by simp)) f284
  have f300 := k287 _ _ (pd_ne f285 f274 (by simp)) f285
  have f301 := k287 _ _ (pd_ne f272 f274 (by simp)) f272
  refine lv_aload_n hx hb d_p15m1_107 rfl (lv_at hl 0 rfl) ?_
  refine lv_bipush (v := nI 24) hx hb d_p15m1_108 (by decide) ?_
  refine pd_newa (ty := .int) (x := (24, .inl (fun _ => 0))) 46 X w rfl mT_366 rfl rfl (by omega) (by decide) (fun _ h9 => h9) (by decide) (Nat.le_trans (Nat.add_le_add_left (by omega : 24 ≤ 24) _) (by decide)) d_p15m1_110 (fun q302 H hq303 hz304 w => ?_)
  refine W.widen (k := 13) (n := 920) (by decide) (by omega) ?_
  obtain ⟨h305, u308⟩ : ∃ z, z = pd_up h286 q302 (46, .inl (.int, 24, .inl (fun _ => 0))) := ⟨_, rfl⟩
  rw [← u308] at w
  have k306 : pd_kx [] h286 h305 := by rw [u308]; exact pd_new_kx hq303
  have f307 : h305 q302 = some (46, .inl (.int, 24, .inl (fun _ => 0))) := by rw [u308]; exact pd_up_s _ _ _
  have f309 := k306 _ _ f288 List.not_mem_nil
  have f310 := k306 _ _ f290 List.not_mem_nil
  have f311 := k306 _ _ f291 List.not_mem_nil
  have f312 := k306 _ _ f292 List.not_mem_nil
  have f313 := k306 _ _ f293 List.not_mem_nil
  have f314 := k306 _ _ f294 List.not_mem_nil
  have f315 := k306 _ _ f295 List.not_mem_nil
  have f316 := k306 _ _ f296 List.not_mem_nil
  have f317 := k306 _ _ f297 List.not_mem_nil
  have f318 := k306 _ _ f298 List.not_mem_nil
  have f319 := k306 _ _ f299 List.not_mem_nil
  have f320 := k306 _ _ f300 List.not_mem_nil
  have f321 := k306 _ _ f301 List.not_mem_nil
  refine pd_putF (ty := (.array .int)) X w f309 hz_y rfl 16 (by decide) mT_1155 rfl rfl hmn rfl (by decide +kernel) rfl rfl (Nat.le_of_ble_eq_true rfl) d_p15m1_112 (fun H locs w => ?_)
  have w : pd_w G s H locs (pd_up h305 y (20, .inr (10, [.ref q1, .ref q14, .ref q29, .int (nI 0), .int (nI 0), .int (nI 0), .ref q46, .ref q65, .ref q86, .ref q109, .ref q134, .ref q161, .int (nI 2), .ref q203, .ref q234, .ref q267, .ref q302, .null, .null, .null, .int (nI 0), .null, .null, .null, .null, .null, .null, .null, .null, .int (nI 0), .null, .null, .int (nI 0), .int (nI 0), .int (nI 0), .int (nI 0), .long 0, .int (nI 0), .int (nI 0), .int (nI 0), .int (nI 0), .null, .null, .int (nI 0)]))) := w
  obtain ⟨h322, u325⟩ : ∃ z, z = pd_up h305 y (20, .inr (10, [.ref q1, .ref q14, .ref q29, .int (nI 0), .int (nI 0), .int (nI 0), .ref q46, .ref q65, .ref q86, .ref q109, .ref q134, .ref q161, .int (nI 2), .ref q203, .ref q234, .ref q267, .ref q302, .null, .null, .null, .int (nI 0), .null, .null, .null, .null, .null, .null, .null, .null, .int (nI 0), .null, .null, .int (nI 0), .int (nI 0), .int (nI 0), .int (nI 0), .long 0, .int (nI 0), .int (nI 0), .int (nI 0), .int (nI 0), .null, .null, .int (nI 0)])) := ⟨_, rfl⟩
  rw [← u325] at w
  have k323 : pd_kq y h305 h322 := by rw [u325]; exact pd_up_kq
  have f324 : h322 y = some (20, .inr (10, [.ref q1, .ref q14, .ref q29, .int (nI 0), .int (nI 0), .int (nI 0), .ref q46, .ref q65, .ref q86, .ref q109, .ref q134, .ref q161, .int (nI 2), .ref q203, .ref q234, .ref q267, .ref q302, .null, .null, .null, .int (nI 0), .null, .null, .null, .null, .null, .null, .null, .null, .int (nI 0), .null, .null, .int (nI 0), .int (nI 0), .int (nI 0), .int (nI 0), .long 0, .int (nI 0), .int (nI 0), .int (nI 0), .int (nI 0), .null, .null, .int (nI 0)])) := by rw [u325]; exact pd_up_s _ _ _
  have f326 := k323 _ _ (pd_ne f310 f309 (by simp)) f310
  have f327 := k323 _ _ (pd_ne f311 f309 (by simp)) f311
  have f328 := k323 _ _ (pd_ne f312 f309 (by simp)) f312
  have f329 := k323 _ _ (pd_ne f313 f309 (by simp)) f313
  have f330 := k323 _ _ (pd_ne f314 f309 (by simp)) f314
  have f331 := k323 _ _ (pd_ne f315 f309 (by simp)) f315
  have f332 := k323 _ _ (pd_ne f316 f309 (by simp)) f316
  have f333 := k323 _ _ (pd_ne f317 f309 (by simp)) f317
  have f334 := k323 _ _ (pd_ne f318 f309 (by simp)) f318
  have f335 := k323 _ _ (pd_ne f319 f309 (by simp)) f319
  have f336 := k323 _ _ (pd_ne f320 f309 (by simp)) f320
  have f337 := k323 _ _ (pd_ne f321 f309 (by simp)) f321
  have f338 := k323 _ _ (pd_ne f307 f309 (by simp)) f307
  refine lv_aload_n hx hb d_p15m1_115 rfl (lv_at hl 0 rfl) ?_
  refine lv_sipush (v := nI 1440) hx hb d_p15m1_116 (by decide) ?_
  refine pd_newa (ty := .int) (x := (1440, .inl (fun _ => 0))) 47 X w rfl mT_366 rfl rfl (by omega) (by decide) (fun _ h9 => h9) (by decide) (Nat.le_trans (Nat.add_le_add_left (by omega : 1440 ≤ 1440) _) (by decide)) d_p15m1_119 (fun q339 H hq340 hz341 w => ?_)
  refine W.widen (k := 14) (n := 2360) (by decide) (by omega) ?_
  obtain ⟨h342, u345⟩ : ∃ z, z = pd_up h322 q339 (47, .inl (.int, 1440, .inl (fun _ => 0))) := ⟨_, rfl⟩
  rw [← u345] at w
  have k343 : pd_kx [] h322 h342 := by rw [u345]; exact pd_new_kx hq340
  have f344 : h342 q339 = some (47, .inl (.int, 1440, .inl (fun _ => 0))) := by rw [u345]; exact pd_up_s _ _ _
  have f346 := k343 _ _ f324 List.not_mem_nil
  have f347 := k343 _ _ f326 List.not_mem_nil
  have f348 := k343 _ _ f327 List.not_mem_nil
  have f349 := k343 _ _ f328 List.not_mem_nil
  have f350 := k343 _ _ f329 List.not_mem_nil
  have f351 := k343 _ _ f330 List.not_mem_nil
  have f352 := k343 _ _ f331 List.not_mem_nil
  have f353 := k343 _ _ f332 List.not_mem_nil
  have f354 := k343 _ _ f333 List.not_mem_nil
  have f355 := k343 _ _ f334 List.not_mem_nil
  have f356 := k343 _ _ f335 List.not_mem_nil
  have f357 := k343 _ _ f336 List.not_mem_nil
  have f358 := k343 _ _ f337 List.not_mem_nil
  have f359 := k343 _ _ f338 List.not_mem_nil
  refine pd_putF (ty := (.array .int)) X w f346 hz_y rfl 17 (by decide) mT_1156 rfl rfl hmn rfl (by decide +kernel) rfl rfl (Nat.le_of_ble_eq_true rfl) d_p15m1_121 (fun H locs w => ?_)
  have w : pd_w G s H locs (pd_up h342 y (20, .inr (10, [.ref q1, .ref q14, .ref q29, .int (nI 0), .int (nI 0), .int (nI 0), .ref q46, .ref q65, .ref q86, .ref q109, .ref q134, .ref q161, .int (nI 2), .ref q203, .ref q234, .ref q267, .ref q302, .ref q339, .null, .null, .int (nI 0), .null, .null, .null, .null, .null, .null, .null, .null, .int (nI 0), .null, .null, .int (nI 0), .int (nI 0), .int (nI 0), .int (nI 0), .long 0, .int (nI 0), .int (nI 0), .int (nI 0), .int (nI 0), .null, .null, .int (nI 0)]))) := w
  obtain ⟨h360, u363⟩ : ∃ z, z = pd_up h342 y (20, .inr (10, [.ref q1, .ref q14, .ref q29, .int (nI 0), .int (nI 0), .int (nI 0), .ref q46, .ref q65, .ref q86, .ref q109, .ref q134, .ref q161, .int (nI 2), .ref q203, .ref q234, .ref q267, .ref q302, .ref q339, .null, .null, .int (nI 0), .null, .null, .null, .null, .null, .null, .null, .null, .int (nI 0), .null, .null, .int (nI 0), .int (nI 0), .int (nI 0), .int (nI 0), .long 0, .int (nI 0), .int (nI 0), .int (nI 0), .int (nI 0), .null, .null, .int (nI 0)])) := ⟨_, rfl⟩
  rw [← u363] at w
  have k361 : pd_kq y h342 h360 := by rw [u363]; exact pd_up_kq
  have f362 : h360 y = some (20, .inr (10, [.ref q1, .ref q14, .ref q29, .int (nI 0), .int (nI 0), .int (nI 0), .ref q46, .ref q65, .ref q86, .ref q109, .ref q134, .ref q161, .int (nI 2), .ref q203, .ref q234, .ref q267, .ref q302, .ref q339, .null, .null, .int (nI 0), .null, .null, .null, .null, .null, .null, .null, .null, .int (nI 0), .null, .null, .int (nI 0), .int (nI 0), .int (nI 0), .int (nI 0), .long 0, .int (nI 0), .int (nI 0), .int (nI 0), .int (nI 0), .null, .null, .int (nI 0)])) := by rw [u363]; exact pd_up_s _ _ _
  have f364 := k361 _ _ (pd_ne f347 f346 (by simp)) f347
  have f365 := k361 _ _ (pd_ne f348 f346 (by simp)) f348
  have f366 := k361 _ _ (pd_ne f349 f346 (by simp)) f349
  have f367 := k361 _ _ (pd_ne f350 f346 (by simp)) f350
  have f368 := k361 _ _ (pd_ne f351 f346 (by simp)) f351
  have f369 := k361 _ _ (pd_ne f352 f346 (by simp)) f352
  have f370 := k361 _ _ (pd_ne f353 f346 (by simp)) f353
  have f371 := k361 _ _ (pd_ne f354 f346 (by simp)) f354
  have f372 := k361 _ _ (pd_ne f355 f346 (by simp)) f355
  have f373 := k361 _ _ (pd_ne f356 f346 (by simp)) f356
  have f374 := k361 _ _ (pd_ne f357 f346 (by simp)) f357
  have f375 := k361 _ _ (pd_ne f358 f346 (by simp)) f358
  have f376 := k361 _ _ (pd_ne f359 f346 (by simp)) f359
  have f377 := k361 _ _ (pd_ne f344 f346 (by simp)) f344
  refine lv_aload_n hx hb d_p15m1_124 rfl (lv_at hl 0 rfl) ?_
  refine lv_bipush (v := nI 24) hx hb d_p15m1_125 (by decide) ?_
  refine pd_newa (ty := .int) (x := (24, .inl (fun _ => 0))) 48 X w rfl mT_366 rfl rfl (by omega) (by decide) (fun _ h9 => h9) (by decide) (Nat.le_trans (Nat.add_le_add_left (by omega : 24 ≤ 24) _) (by decide)) d_p15m1_127 (fun q378 H hq379 hz380 w => ?_)
  refine W.widen (k := 15) (n := 2384) (by decide) (by omega) ?_
  obtain ⟨h381, u384⟩ : ∃ z, z = pd_up h360 q378 (48, .inl (.int, 24, .inl (fun _ => 0))) := ⟨_, rfl⟩
  rw [← u384] at w
  have k382 : pd_kx [] h360 h381 := by rw [u384]; exact pd_new_kx hq379
  have f383 : h381 q378 = some (48, .inl (.int, 24, .inl (fun _ => 0))) := by rw [u384]; exact pd_up_s _ _ _
  have f385 := k382 _ _ f362 List.not_mem_nil
  have f386 := k382 _ _ f364 List.not_mem_nil
  have f387 := k382 _ _ f365 List.not_mem_nil
  have f388 := k382 _ _ f366 List.not_mem_nil
  have f389 := k382 _ _ f367 List.not_mem_nil
  have f390 := k382 _ _ f368 List.not_mem_nil
  have f391 := k382 _ _ f369 List.not_mem_nil
  have f392 := k382 _ _ f370 List.not_mem_nil
  have f393 := k382 _ _ f371 List.not_mem_nil
  have f394 := k382 _ _ f372 List.not_mem_nil
  have f395 := k382 _ _ f373 List.not_mem_nil
  have f396 := k382 _ _ f374 List.not_mem_nil
  have f397 := k382 _ _ f375 List.not_mem_nil
  have f398 := k382 _ _ f376 List.not_mem_nil
  have f399 := k382 _ _ f377 List.not_mem_nil
  refine pd_putF (ty := (.array .int)) X w f385 hz_y rfl 18 (by decide) mT_1157 rfl rfl hmn rfl (by decide +kernel) rfl rfl (Nat.le_of_ble_eq_true rfl) d_p15m1_129 (fun H locs w => ?_)
  have w : pd_w G s H locs (pd_up h381 y (20, .inr (10, [.ref q1, .ref q14, .ref q29, .int (nI 0), .int (nI 0), .int (nI 0), .ref q46, .ref q65, .ref q86, .ref q109, .ref q134, .ref q161, .int (nI 2), .ref q203, .ref q234, .ref q267, .ref q302, .ref q339, .ref q378, .null, .int (nI 0), .null, .null, .null, .null, .null, .null, .null, .null, .int (nI 0), .null, .null, .int (nI 0), .int (nI 0), .int (nI 0), .int (nI 0), .long 0, .int (nI 0), .int (nI 0), .int (nI 0), .int (nI 0), .null, .null, .int (nI 0)]))) := w
  obtain ⟨h400, u403⟩ : ∃ z, z = pd_up h381 y (20, .inr (10, [.ref q1, .ref q14, .ref q29, .int (nI 0), .int (nI 0), .int (nI 0), .ref q46, .ref q65, .ref q86, .ref q109, .ref q134, .ref q161, .int (nI 2), .ref q203, .ref q234, .ref q267, .ref q302, .ref q339, .ref q378, .null, .int (nI 0), .null, .null, .null, .null, .null, .null, .null, .null, .int (nI 0), .null, .null, .int (nI 0), .int (nI 0), .int (nI 0), .int (nI 0), .long 0, .int (nI 0), .int (nI 0), .int (nI 0), .int (nI 0), .null, .null, .int (nI 0)])) := ⟨_, rfl⟩
  rw [← u403] at w
  have k401 : pd_kq y h381 h400 := by rw [u403]; exact pd_up_kq
  have f402 : h400 y = some (20, .inr (10, [.ref q1, .ref q14, .ref q29, .int (nI 0), .int (nI 0), .int (nI 0), .ref q46, .ref q65, .ref q86, .ref q109, .ref q134, .ref q161, .int (nI 2), .ref q203, .ref q234, .ref q267, .ref q302, .ref q339, .ref q378, .null, .int (nI 0), .null, .null, .null, .null, .null, .null, .null, .null, .int (nI 0), .null, .null, .int (nI 0), .int (nI 0), .int (nI 0), .int (nI 0), .long 0, .int (nI 0), .int (nI 0), .int (nI 0), .int (nI 0), .null, .null, .int (nI 0)])) := by rw [u403]; exact pd_up_s _ _ _
  have f404 := k401 _ _ (pd_ne f386 f385 (by simp)) f386
  have f405 := k401 _ _ (pd_ne f387 f385 (by simp)) f387
  have f406 := k401 _ _ (pd_ne f388 f385 (by simp)) f388
  have f407 := k401 _ _ (pd_ne f389 f385 (by simp)) f389
  have f408 := k401 _ _ (pd_ne f390 f385 (by simp)) f390
  have f409 := k401 _ _ (pd_ne f391 f385 (by simp)) f391
  have f410 := k401 _ _ (pd_ne f392 f385 (by simp)) f392
  have f411 := k401 _ _ (pd_ne f393 f385 (by simp)) f393
  have f412 := k401 _ _ (pd_ne f394 f385 (by simp)) f394
  have f413 := k401 _ _ (pd_ne f395 f385 (by simp)) f395
  have f414 := k401 _ _ (pd_ne f396 f385 (by simp)) f396
  have f415 := k401 _ _ (pd_ne f397 f385 (by simp)) f397
  have f416 := k401 _ _ (pd_ne f398 f385 (by simp)) f398
  have f417 := k401 _ _ (pd_ne f399 f385 (by simp)) f399
  have f418 := k401 _ _ (pd_ne f383 f385 (by simp)) f383
  refine lv_aload_n hx hb d_p15m1_132 rfl (lv_at hl 0 rfl) ?_
  refine lv_bipush (v := nI 24) hx hb d_p15m1_133 (by decide) ?_
  refine pd_newa (ty := .boolean) (x := (24, .inl (fun _ => 0))) 49 X w rfl mT_1272 rfl rfl (by omega) (by decide) (fun _ h9 => h9) (by decide) (Nat.le_trans (Nat.add_le_add_left (by omega : 24 ≤ 24) _) (by decide)) d_p15m1_135 (fun q419 H hq420 hz421 w => ?_)
  refine W.widen (k := 16) (n := 2408) (by decide) (by omega) ?_
  obtain ⟨h422, u425⟩ : ∃ z, z = pd_up h400 q419 (49, .inl (.boolean, 24, .inl (fun _ => 0))) := ⟨_, rfl⟩
  rw [← u425] at w
  have k423 : pd_kx [] h400 h422 := by rw [u425]; exact pd_new_kx hq420
  have f424 : h422 q419 = some (49, .inl (.boolean, 24, .inl (fun _ => 0))) := by rw [u425]; exact pd_up_s _ _ _
  have f426 := k423 _ _ f402 List.not_mem_nil
  have f427 := k423 _ _ f404 List.not_mem_nil
  have f428 := k423 _ _ f405 List.not_mem_nil
  have f429 := k423 _ _ f406 List.not_mem_nil
  have f430 := k423 _ _ f407 List.not_mem_nil
  have f431 := k423 _ _ f408 List.not_mem_nil
  have f432 := k423 _ _ f409 List.not_mem_nil
  have f433 := k423 _ _ f410 List.not_mem_nil
  have f434 := k423 _ _ f411 List.not_mem_nil
  have f435 := k423 _ _ f412 List.not_mem_nil
  have f436 := k423 _ _ f413 List.not_mem_nil
  have f437 := k423 _ _ f414 List.not_mem_nil
  have f438 := k423 _ _ f415 List.not_mem_nil
  have f439 := k423 _ _ f416 List.not_mem_nil
  have f440 := k423 _ _ f417 List.not_mem_nil
  have f441 := k423 _ _ f418 List.not_mem_nil
  refine pd_putF (ty := (.array .boolean)) X w f426 hz_y rfl 19 (by decide) mT_1158 rfl rfl hmn rfl (by decide +kernel) rfl rfl (Nat.le_of_ble_eq_true rfl) d_p15m1_137 (fun H locs w => ?_)
  have w : pd_w G s H locs (pd_up h422 y (20, .inr (10, [.ref q1, .ref q14, .ref q29, .int (nI 0), .int (nI 0), .int (nI 0), .ref q46, .ref q65, .ref q86, .ref q109, .ref q134, .ref q161, .int (nI 2), .ref q203, .ref q234, .ref q267, .ref q302, .ref q339, .ref q378, .ref q419, .int (nI 0), .null, .null, .null, .null, .null, .null, .null, .null, .int (nI 0), .null, .null, .int (nI 0), .int (nI 0), .int (nI 0), .int (nI 0), .long 0, .int (nI 0), .int (nI 0), .int (nI 0), .int (nI 0), .null, .null, .int (nI 0)]))) := w
  obtain ⟨h442, u445⟩ : ∃ z, z = pd_up h422 y (20, .inr (10, [.ref q1, .ref q14, .ref q29, .int (nI 0), .int (nI 0), .int (nI 0), .ref q46, .ref q65, .ref q86, .ref q109, .ref q134, .ref q161, .int (nI 2), .ref q203, .ref q234, .ref q267, .ref q302, .ref q339, .ref q378, .ref q419, .int (nI 0), .null, .null, .null, .null, .null, .null, .null, .null, .int (nI 0), .null, .null, .int (nI 0), .int (nI 0), .int (nI 0), .int (nI 0), .long 0, .int (nI 0), .int (nI 0), .int (nI 0), .int (nI 0), .null, .null, .int (nI 0)])) := ⟨_, rfl⟩
  rw [← u445] at w
  have k443 : pd_kq y h422 h442 := by rw [u445]; exact pd_up_kq
  have f444 : h442 y = some (20, .inr (10, [.ref q1, .ref q14, .ref q29, .int (nI 0), .int (nI 0), .int (nI 0), .ref q46, .ref q65, .ref q86, .ref q109, .ref q134, .ref q161, .int (nI 2), .ref q203, .ref q234, .ref q267, .ref q302, .ref q339, .ref q378, .ref q419, .int (nI 0), .null, .null, .null, .null, .null, .null, .null, .null, .int (nI 0), .null, .null, .int (nI 0), .int (nI 0), .int (nI 0), .int (nI 0), .long 0, .int (nI 0), .int (nI 0), .int (nI 0), .int (nI 0), .null, .null, .int (nI 0)])) := by rw [u445]; exact pd_up_s _ _ _
  have f446 := k443 _ _ (pd_ne f427 f426 (by simp)) f427
  have f447 := k443 _ _ (pd_ne f428 f426 (by simp)) f428
  have f448 := k443 _ _ (pd_ne f429 f426 (by simp)) f429
  have f449 := k443 _ _ (pd_ne f430 f426 (by simp)) f430
  have f450 := k443 _ _ (pd_ne f431 f426 (by simp)) f431
  have f451 := k443 _ _ (pd_ne f432 f426 (by simp)) f432
  have f452 := k443 _ _ (pd_ne f433 f426 (by simp)) f433
  have f453 := k443 _ _ (pd_ne f434 f426 (by simp)) f434
  have f454 := k443 _ _ (pd_ne f435 f426 (by simp)) f435
  have f455 := k443 _ _ (pd_ne f436 f426 (by simp)) f436
  have f456 := k443 _ _ (pd_ne f437 f426 (by simp)) f437
  have f457 := k443 _ _ (pd_ne f438 f426 (by simp)) f438
  have f458 := k443 _ _ (pd_ne f439 f426 (by simp)) f439
  have f459 := k443 _ _ (pd_ne f440 f426 (by simp)) f440
  have f460 := k443 _ _ (pd_ne f441 f426 (by simp)) f441
  have f461 := k443 _ _ (pd_ne f424 f426 (by simp)) f424
  refine lv_aload_n hx hb d_p15m1_140 rfl (lv_at hl 0 rfl) ?_
  refine lv_bipush (v := nI 24) hx hb d_p15m1_141 (by decide) ?_
  refine pd_newa (ty := .int) (x := (24, .inl (fun _ => 0))) 51 X w rfl mT_366 rfl rfl (by omega) (by decide) (fun _ h9 => h9) (by decide) (Nat.le_trans (Nat.add_le_add_left (by omega : 24 ≤ 24) _) (by decide)) d_p15m1_143 (fun q462 H hq463 hz464 w => ?_)
  refine W.widen (k := 17) (n := 2432) (by decide) (by omega) ?_
  obtain ⟨h465, u468⟩ : ∃ z, z = pd_up h442 q462 (51, .inl (.int, 24, .inl (fun _ => 0))) := ⟨_, rfl⟩
  rw [← u468] at w
  have k466 : pd_kx [] h442 h465 := by rw [u468]; exact pd_new_kx hq463
  have f467 : h465 q462 = some (51, .inl (.int, 24, .inl (fun _ => 0))) := by rw [u468]; exact pd_up_s _ _ _
  have f469 := k466 _ _ f444 List.not_mem_nil
  have f470 := k466 _ _ f446 List.not_mem_nil
  have f471 := k466 _ _ f447 List.not_mem_nil
  have f472 := k466 _ _ f448 List.not_mem_nil
  have f473 := k466 _ _ f449 List.not_mem_nil
  have f474 := k466 _ _ f450 List.not_mem_nil
  have f475 := k466 _ _ f451 List.not_mem_nil
  have f476 := k466 _ _ f452 List.not_mem_nil
  have f477 := k466 _ _ f453 List.not_mem_nil
  have f478 := k466 _ _ f454 List.not_mem_nil
  have f479 := k466 _ _ f455 List.not_mem_nil
  have f480 := k466 _ _ f456 List.not_mem_nil
  have f481 := k466 _ _ f457 List.not_mem_nil
  have f482 := k466 _ _ f458 List.not_mem_nil
  have f483 := k466 _ _ f459 List.not_mem_nil
  have f484 := k466 _ _ f460 List.not_mem_nil
  have f485 := k466 _ _ f461 List.not_mem_nil
  refine pd_putF (ty := (.array .int)) X w f469 hz_y rfl 21 (by decide) mT_1160 rfl rfl hmn rfl (by decide +kernel) rfl rfl (Nat.le_of_ble_eq_true rfl) d_p15m1_145 (fun H locs w => ?_)
  have w : pd_w G s H locs (pd_up h465 y (20, .inr (10, [.ref q1, .ref q14, .ref q29, .int (nI 0), .int (nI 0), .int (nI 0), .ref q46, .ref q65, .ref q86, .ref q109, .ref q134, .ref q161, .int (nI 2), .ref q203, .ref q234, .ref q267, .ref q302, .ref q339, .ref q378, .ref q419, .int (nI 0), .ref q462, .null, .null, .null, .null, .null, .null, .null, .int (nI 0), .null, .null, .int (nI 0), .int (nI 0), .int (nI 0), .int (nI 0), .long 0, .int (nI 0), .int (nI 0), .int (nI 0), .int (nI 0), .null, .null, .int (nI 0)]))) := w
  obtain ⟨h486, u489⟩ : ∃ z, z = pd_up h465 y (20, .inr (10, [.ref q1, .ref q14, .ref q29, .int (nI 0), .int (nI 0), .int (nI 0), .ref q46, .ref q65, .ref q86, .ref q109, .ref q134, .ref q161, .int (nI 2), .ref q203, .ref q234, .ref q267, .ref q302, .ref q339, .ref q378, .ref q419, .int (nI 0), .ref q462, .null, .null, .null, .null, .null, .null, .null, .int (nI 0), .null, .null, .int (nI 0), .int (nI 0), .int (nI 0), .int (nI 0), .long 0, .int (nI 0), .int (nI 0), .int (nI 0), .int (nI 0), .null, .null, .int (nI 0)])) := ⟨_, rfl⟩
  rw [← u489] at w
  have k487 : pd_kq y h465 h486 := by rw [u489]; exact pd_up_kq
  have f488 : h486 y = some (20, .inr (10, [.ref q1, .ref q14, .ref q29, .int (nI 0), .int (nI 0), .int (nI 0), .ref q46, .ref q65, .ref q86, .ref q109, .ref q134, .ref q161, .int (nI 2), .ref q203, .ref q234, .ref q267, .ref q302, .ref q339, .ref q378, .ref q419, .int (nI 0), .ref q462, .null, .null, .null, .null, .null, .null, .null, .int (nI 0), .null, .null, .int (nI 0), .int (nI 0), .int (nI 0), .int (nI 0), .long 0, .int (nI 0), .int (nI 0), .int (nI 0), .int (nI 0), .null, .null, .int (nI 0)])) := by rw [u489]; exact pd_up_s _ _ _
  have f490 := k487 _ _ (pd_ne f470 f469 (by simp)) f470
  have f491 := k487 _ _ (pd_ne f471 f469 (by simp)) f471
  have f492 := k487 _ _ (pd_ne f472 f469 (by simp)) f472
  have f493 := k487 _ _ (pd_ne f473 f469 (by simp)) f473
  have f494 := k487 _ _ (pd_ne f474 f469 (by simp)) f474
  have f495 := k487 _ _ (pd_ne f475 f469 (by simp)) f475
  have f496 := k487 _ _ (pd_ne f476 f469 (by simp)) f476
  have f497 := k487 _ _ (pd_ne f477 f469 (by simp)) f477
  have f498 := k487 _ _ (pd_ne f478 f469 (by simp)) f478
  have f499 := k487 _ _ (pd_ne f479 f469 (by simp)) f479
  have f500 := k487 _ _ (pd_ne f480 f469 (by simp)) f480
  have f501 := k487 _ _ (pd_ne f481 f469 (by simp)) f481
  have f502 := k487 _ _ (pd_ne f482 f469 (by simp)) f482
  have f503 := k487 _ _ (pd_ne f483 f469 (by simp)) f483
  have f504 := k487 _ _ (pd_ne f484 f469 (by simp)) f484
  have f505 := k487 _ _ (pd_ne f485 f469 (by simp)) f485
  have f506 := k487 _ _ (pd_ne f467 f469 (by simp)) f467
  refine lv_aload_n hx hb d_p15m1_148 rfl (lv_at hl 0 rfl) ?_
  refine lv_bipush (v := nI 24) hx hb d_p15m1_149 (by decide) ?_
  refine pd_newa (ty := .int) (x := (24, .inl (fun _ => 0))) 52 X w rfl mT_366 rfl rfl (by omega) (by decide) (fun _ h9 => h9) (by decide) (Nat.le_trans (Nat.add_le_add_left (by omega : 24 ≤ 24) _) (by decide)) d_p15m1_151 (fun q507 H hq508 hz509 w => ?_)
  refine W.widen (k := 18) (n := 2456) (by decide) (by omega) ?_
  obtain ⟨h510, u513⟩ : ∃ z, z = pd_up h486 q507 (52, .inl (.int, 24, .inl (fun _ => 0))) := ⟨_, rfl⟩
  rw [← u513] at w
  have k511 : pd_kx [] h486 h510 := by rw [u513]; exact pd_new_kx hq508
  have f512 : h510 q507 = some (52, .inl (.int, 24, .inl (fun _ => 0))) := by rw [u513]; exact pd_up_s _ _ _
  have f514 := k511 _ _ f488 List.not_mem_nil
  have f515 := k511 _ _ f490 List.not_mem_nil
  have f516 := k511 _ _ f491 List.not_mem_nil
  have f517 := k511 _ _ f492 List.not_mem_nil
  have f518 := k511 _ _ f493 List.not_mem_nil
  have f519 := k511 _ _ f494 List.not_mem_nil
  have f520 := k511 _ _ f495 List.not_mem_nil
  have f521 := k511 _ _ f496 List.not_mem_nil
  have f522 := k511 _ _ f497 List.not_mem_nil
  have f523 := k511 _ _ f498 List.not_mem_nil
  have f524 := k511 _ _ f499 List.not_mem_nil
  have f525 := k511 _ _ f500 List.not_mem_nil
  have f526 := k511 _ _ f501 List.not_mem_nil
  have f527 := k511 _ _ f502 List.not_mem_nil
  have f528 := k511 _ _ f503 List.not_mem_nil
  have f529 := k511 _ _ f504 List.not_mem_nil
  have f530 := k511 _ _ f505 List.not_mem_nil
  have f531 := k511 _ _ f506 List.not_mem_nil
  refine pd_putF (ty := (.array .int)) X w f514 hz_y rfl 22 (by decide) mT_1161 rfl rfl hmn rfl (by decide +kernel) rfl rfl (Nat.le_of_ble_eq_true rfl) d_p15m1_153 (fun H locs w => ?_)
  have w : pd_w G s H locs (pd_up h510 y (20, .inr (10, [.ref q1, .ref q14, .ref q29, .int (nI 0), .int (nI 0), .int (nI 0), .ref q46, .ref q65, .ref q86, .ref q109, .ref q134, .ref q161, .int (nI 2), .ref q203, .ref q234, .ref q267, .ref q302, .ref q339, .ref q378, .ref q419, .int (nI 0), .ref q462, .ref q507, .null, .null, .null, .null, .null, .null, .int (nI 0), .null, .null, .int (nI 0), .int (nI 0), .int (nI 0), .int (nI 0), .long 0, .int (nI 0), .int (nI 0), .int (nI 0), .int (nI 0), .null, .null, .int (nI 0)]))) := w
  obtain ⟨h532, u535⟩ : ∃ z, z = pd_up h510 y (20, .inr (10, [.ref q1, .ref q14, .ref q29, .int (nI 0), .int (nI 0), .int (nI 0), .ref q46, .ref q65, .ref q86, .ref q109, .ref q134, .ref q161, .int (nI 2), .ref q203, .ref q234, .ref q267, .ref q302, .ref q339, .ref q378, .ref q419, .int (nI 0), .ref q462, .ref q507, .null, .null, .null, .null, .null, .null, .int (nI 0), .null, .null, .int (nI 0), .int (nI 0), .int (nI 0), .int (nI 0), .long 0, .int (nI 0), .int (nI 0), .int (nI 0), .int (nI 0), .null, .null, .int (nI 0)])) := ⟨_, rfl⟩
  rw [← u535] at w
  have k533 : pd_kq y h510 h532 := by rw [u535]; exact pd_up_kq
  have f534 : h532 y = some (20, .inr (10, [.ref q1, .ref q14, .ref q29, .int (nI 0), .int (nI 0), .int (nI 0), .ref q46, .ref q65, .ref q86, .ref q109, .ref q134, .ref q161, .int (nI 2), .ref q203, .ref q234, .ref q267, .ref q302, .ref q339, .ref q378, .ref q419, .int (nI 0), .ref q462, .ref q507, .null, .null, .null, .null, .null, .null, .int (nI 0), .null, .null, .int (nI 0), .int (nI 0), .int (nI 0), .int (nI 0), .long 0, .int (nI 0), .int (nI 0), .int (nI 0), .int (nI 0), .null, .null, .int (nI 0)])) := by rw [u535]; exact pd_up_s _ _ _
  have f536 := k533 _ _ (pd_ne f515 f514 (by simp)) f515
  have f537 := k533 _ _ (pd_ne f516 f514 (by simp)) f516
  have f538 := k533 _ _ (pd_ne f517 f514 (by simp)) f517
  have f539 := k533 _ _ (pd_ne f518 f514 (by simp)) f518
  have f540 := k533 _ _ (pd_ne f519 f514 (by simp)) f519
  have f541 := k533 _ _ (pd_ne f520 f514 (by simp)) f520
  have f542 := k533 _ _ (pd_ne f521 f514 (by simp)) f521
  have f543 := k533 _ _ (pd_ne f522 f514 (by simp)) f522
  have f544 := k533 _ _ (pd_ne f523 f514 (by simp)) f523
  have f545 := k533 _ _ (pd_ne f524 f514 (by simp)) f524
  have f546 := k533 _ _ (pd_ne f525 f514 (by simp)) f525
  have f547 := k533 _ _ (pd_ne f526 f514 (by simp)) f526
  have f548 := k533 _ _ (pd_ne f527 f514 (by simp)) f527
  have f549 := k533 _ _ (pd_ne f528 f514 (by simp)) f528
  have f550 := k533 _ _ (pd_ne f529 f514 (by simp)) f529
  have f551 := k533 _ _ (pd_ne f530 f514 (by simp)) f530
  have f552 := k533 _ _ (pd_ne f531 f514 (by simp)) f531
  have f553 := k533 _ _ (pd_ne f512 f514 (by simp)) f512
  refine lv_aload_n hx hb d_p15m1_156 rfl (lv_at hl 0 rfl) ?_
  refine lv_sipush (v := nI 576) hx hb d_p15m1_157 (by decide) ?_
  refine pd_newa (ty := .int) (x := (576, .inl (fun _ => 0))) 53 X w rfl mT_366 rfl rfl (by omega) (by decide) (fun _ h9 => h9) (by decide) (Nat.le_trans (Nat.add_le_add_left (by omega : 576 ≤ 576) _) (by decide)) d_p15m1_160 (fun q554 H hq555 hz556 w => ?_)
  refine W.widen (k := 19) (n := 3032) (by decide) (by omega) ?_
  obtain ⟨h557, u560⟩ : ∃ z, z = pd_up h532 q554 (53, .inl (.int, 576, .inl (fun _ => 0))) := ⟨_, rfl⟩
  rw [← u560] at w
  have k558 : pd_kx [] h532 h557 := by rw [u560]; exact pd_new_kx hq555
  have f559 : h557 q554 = some (53, .inl (.int, 576, .inl (fun _ => 0))) := by rw [u560]; exact pd_up_s _ _ _
  have f561 := k558 _ _ f534 List.not_mem_nil
  have f562 := k558 _ _ f536 List.not_mem_nil
  have f563 := k558 _ _ f537 List.not_mem_nil
  have f564 := k558 _ _ f538 List.not_mem_nil
  have f565 := k558 _ _ f539 List.not_mem_nil
  have f566 := k558 _ _ f540 List.not_mem_nil
  have f567 := k558 _ _ f541 List.not_mem_nil
  have f568 := k558 _ _ f542 List.not_mem_nil
  have f569 := k558 _ _ f543 List.not_mem_nil
  have f570 := k558 _ _ f544 List.not_mem_nil
  have f571 := k558 _ _ f545 List.not_mem_nil
  have f572 := k558 _ _ f546 List.not_mem_nil
  have f573 := k558 _ _ f547 List.not_mem_nil
  have f574 := k558 _ _ f548 List.not_mem_nil
  have f575 := k558 _ _ f549 List.not_mem_nil
  have f576 := k558 _ _ f550 List.not_mem_nil
  have f577 := k558 _ _ f551 List.not_mem_nil
  have f578 := k558 _ _ f552 List.not_mem_nil
  have f579 := k558 _ _ f553 List.not_mem_nil
  refine pd_putF (ty := (.array .int)) X w f561 hz_y rfl 23 (by decide) mT_1162 rfl rfl hmn rfl (by decide +kernel) rfl rfl (Nat.le_of_ble_eq_true rfl) d_p15m1_162 (fun H locs w => ?_)
  have w : pd_w G s H locs (pd_up h557 y (20, .inr (10, [.ref q1, .ref q14, .ref q29, .int (nI 0), .int (nI 0), .int (nI 0), .ref q46, .ref q65, .ref q86, .ref q109, .ref q134, .ref q161, .int (nI 2), .ref q203, .ref q234, .ref q267, .ref q302, .ref q339, .ref q378, .ref q419, .int (nI 0), .ref q462, .ref q507, .ref q554, .null, .null, .null, .null, .null, .int (nI 0), .null, .null, .int (nI 0), .int (nI 0), .int (nI 0), .int (nI 0), .long 0, .int (nI 0), .int (nI 0), .int (nI 0), .int (nI 0), .null, .null, .int (nI 0)]))) := w
  obtain ⟨h580, u583⟩ : ∃ z, z = pd_up h557 y (20, .inr (10, [.ref q1, .ref q14, .ref q29, .int (nI 0), .int (nI 0), .int (nI 0), .ref q46, .ref q65, .ref q86, .ref q109, .ref q134, .ref q161, .int (nI 2), .ref q203, .ref q234, .ref q267, .ref q302, .ref q339, .ref q378, .ref q419, .int (nI 0), .ref q462, .ref q507, .ref q554, .null, .null, .null, .null, .null, .int (nI 0), .null, .null, .int (nI 0), .int (nI 0), .int (nI 0), .int (nI 0), .long 0, .int (nI 0), .int (nI 0), .int (nI 0), .int (nI 0), .null, .null, .int (nI 0)])) := ⟨_, rfl⟩
  rw [← u583] at w
  have k581 : pd_kq y h557 h580 := by rw [u583]; exact pd_up_kq
  have f582 : h580 y = some (20, .inr (10, [.ref q1, .ref q14, .ref q29, .int (nI 0), .int (nI 0), .int (nI 0), .ref q46, .ref q65, .ref q86, .ref q109, .ref q134, .ref q161, .int (nI 2), .ref q203, .ref q234, .ref q267, .ref q302, .ref q339, .ref q378, .ref q419, .int (nI 0), .ref q462, .ref q507, .ref q554, .null, .null, .null, .null, .null, .int (nI 0), .null, .null, .int (nI 0), .int (nI 0), .int (nI 0), .int (nI 0), .long 0, .int (nI 0), .int (nI 0), .int (nI 0), .int (nI 0), .null, .null, .int (nI 0)])) := by rw [u583]; exact pd_up_s _ _ _
  have f584 := k581 _ _ (pd_ne f562 f561 (by simp)) f562
  have f585 := k581 _ _ (pd_ne f563 f561 (by simp)) f563
  have f586 := k581 _ _ (pd_ne f564 f561 (by simp)) f564
  have f587 := k581 _ _ (pd_ne f565 f561 (by simp)) f565
  have f588 := k581 _ _ (pd_ne f566 f561 (by simp)) f566
  have f589 := k581 _ _ (pd_ne f567 f561 (by simp)) f567
  have f590 := k581 _ _ (pd_ne f568 f561 (by simp)) f568
  have f591 := k581 _ _ (pd_ne f569 f561 (by simp)) f569
  have f592 := k581 _ _ (pd_ne f570 f561 (by simp)) f570
  have f593 := k581 _ _ (pd_ne f571 f561 (by simp)) f571
  have f594 := k581 _ _ (pd_ne f572 f561 (by simp)) f572
  have f595 := k581 _ _ (pd_ne f573 f561 (by simp)) f573
  have f596 := k581 _ _ (pd_ne f574 f561 (by simp)) f574
  have f597 := k581 _ _ (pd_ne f575 f561 (by simp)) f575
  have f598 := k581 _ _ (pd_ne f576 f561 (by simp)) f576
  have f599 := k581 _ _ (pd_ne f577 f561 (by simp)) f577
  have f600 := k581 _ _ (pd_ne f578 f561 (by simp)) f578
  have f601 := k581 _ _ (pd_ne f579 f561 (by simp)) f579
  have f602 := k581 _ _ (pd_ne f559 f561 (by simp)) f559
  refine lv_aload_n hx hb d_p15m1_165 rfl (lv_at hl 0 rfl) ?_
  refine lv_bipush (v := nI 24) hx hb d_p15m1_166 (by decide) ?_
  refine pd_newa (ty := .int) (x := (24, .inl (fun _ => 0))) 54 X w rfl mT_366 rfl rfl (by omega) (by decide) (fun _ h9 => h9) (by decide) (Nat.le_trans (Nat.add_le_add_left (by omega : 24 ≤ 24) _) (by decide)) d_p15m1_168 (fun q603 H hq604 hz605 w => ?_)
  refine W.widen (k := 20) (n := 3056) (by decide) (by omega) ?_
  obtain ⟨h606, u609⟩ : ∃ z, z = pd_up h580 q603 (54, .inl (.int, 24, .inl (fun _ => 0))) := ⟨_, rfl⟩
  rw [← u609] at w
  have k607 : pd_kx [] h580 h606 := by rw [u609]; exact pd_new_kx hq604
  have f608 : h606 q603 = some (54, .inl (.int, 24, .inl (fun _ => 0))) := by rw [u609]; exact pd_up_s _ _ _
  have f610 := k607 _ _ f582 List.not_mem_nil
  have f611 := k607 _ _ f584 List.not_mem_nil
  have f612 := k607 _ _ f585 List.not_mem_nil
  have f613 := k607 _ _ f586 List.not_mem_nil
  have f614 := k607 _ _ f587 List.not_mem_nil
  have f615 := k607 _ _ f588 List.not_mem_nil
  have f616 := k607 _ _ f589 List.not_mem_nil
  have f617 := k607 _ _ f590 List.not_mem_nil
  have f618 := k607 _ _ f591 List.not_mem_nil
  have f619 := k607 _ _ f592 List.not_mem_nil
  have f620 := k607 _ _ f593 List.not_mem_nil
  have f621 := k607 _ _ f594 List.not_mem_nil
  have f622 := k607 _ _ f595 List.not_mem_nil
  have f623 := k607 _ _ f596 List.not_mem_nil
  have f624 := k607 _ _ f597 List.not_mem_nil
  have f625 := k607 _ _ f598 List.not_mem_nil
  have f626 := k607 _ _ f599 List.not_mem_nil
  have f627 := k607 _ _ f600 List.not_mem_nil
  have f628 := k607 _ _ f601 List.not_mem_nil
  have f629 := k607 _ _ f602 List.not_mem_nil
  refine pd_putF (ty := (.array .int)) X w f610 hz_y rfl 24 (by decide) mT_1163 rfl rfl hmn rfl (by decide +kernel) rfl rfl (Nat.le_of_ble_eq_true rfl) d_p15m1_170 (fun H locs w => ?_)
  have w : pd_w G s H locs (pd_up h606 y (20, .inr (10, [.ref q1, .ref q14, .ref q29, .int (nI 0), .int (nI 0), .int (nI 0), .ref q46, .ref q65, .ref q86, .ref q109, .ref q134, .ref q161, .int (nI 2), .ref q203, .ref q234, .ref q267, .ref q302, .ref q339, .ref q378, .ref q419, .int (nI 0), .ref q462, .ref q507, .ref q554, .ref q603, .null, .null, .null, .null, .int (nI 0), .null, .null, .int (nI 0), .int (nI 0), .int (nI 0), .int (nI 0), .long 0, .int (nI 0), .int (nI 0), .int (nI 0), .int (nI 0), .null, .null, .int (nI 0)]))) := w
  obtain ⟨h630, u633⟩ : ∃ z, z = pd_up h606 y (20, .inr (10, [.ref q1, .ref q14, .ref q29, .int (nI 0), .int (nI 0), .int (nI 0), .ref q46, .ref q65, .ref q86, .ref q109, .ref q134, .ref q161, .int (nI 2), .ref q203, .ref q234, .ref q267, .ref q302, .ref q339, .ref q378, .ref q419, .int (nI 0), .ref q462, .ref q507, .ref q554, .ref q603, .null, .null, .null, .null, .int (nI 0), .null, .null, .int (nI 0), .int (nI 0), .int (nI 0), .int (nI 0), .long 0, .int (nI 0), .int (nI 0), .int (nI 0), .int (nI 0), .null, .null, .int (nI 0)])) := ⟨_, rfl⟩
  rw [← u633] at w
  have k631 : pd_kq y h606 h630 := by rw [u633]; exact pd_up_kq
  have f632 : h630 y = some (20, .inr (10, [.ref q1, .ref q14, .ref q29, .int (nI 0), .int (nI 0), .int (nI 0), .ref q46, .ref q65, .ref q86, .ref q109, .ref q134, .ref q161, .int (nI 2), .ref q203, .ref q234, .ref q267, .ref q302, .ref q339, .ref q378, .ref q419, .int (nI 0), .ref q462, .ref q507, .ref q554, .ref q603, .null, .null, .null, .null, .int (nI 0), .null, .null, .int (nI 0), .int (nI 0), .int (nI 0), .int (nI 0), .long 0, .int (nI 0), .int (nI 0), .int (nI 0), .int (nI 0), .null, .null, .int (nI 0)])) := by rw [u633]; exact pd_up_s _ _ _
  have f634 := k631 _ _ (pd_ne f611 f610 (by simp)) f611
  have f635 := k631 _ _ (pd_ne f612 f610 (by simp)) f612
  have f636 := k631 _ _ (pd_ne f613 f610 (by simp)) f613
  have f637 := k631 _ _ (pd_ne f614 f610 (by simp)) f614
  have f638 := k631 _ _ (pd_ne f615 f610 (by simp)) f615
  have f639 := k631 _ _ (pd_ne f616 f610 (by simp)) f616
  have f640 := k631 _ _ (pd_ne f617 f610 (by simp)) f617
  have f641 := k631 _ _ (pd_ne f618 f610 (by simp)) f618
  have f642 := k631 _ _ (pd_ne f619 f610 (by simp)) f619
  have f643 := k631 _ _ (pd_ne f620 f610 (by simp)) f620
  have f644 := k631 _ _ (pd_ne f621 f610 (by simp)) f621
  have f645 := k631 _ _ (pd_ne f622 f610 (by simp)) f622
  have f646 := k631 _ _ (pd_ne f623 f610 (by simp)) f623
  have f647 := k631 _ _ (pd_ne f624 f610 (by simp)) f624
  have f648 := k631 _ _ (pd_ne f625 f610 (by simp)) f625
  have f649 := k631 _ _ (pd_ne f626 f610 (by simp)) f626
  have f650 := k631 _ _ (pd_ne f627 f610 (by simp)) f627
  have f651 := k631 _ _ (pd_ne f628 f610 (by simp)) f628
  have f652 := k631 _ _ (pd_ne f629 f610 (by simp)) f629
  have f653 := k631 _ _ (pd_ne f608 f610 (by simp)) f608
  refine lv_aload_n hx hb d_p15m1_173 rfl (lv_at hl 0 rfl) ?_
  refine lv_bipush (v := nI 24) hx hb d_p15m1_174 (by decide) ?_
  refine pd_newa (ty := .int) (x := (24, .inl (fun _ => 0))) 55 X w rfl mT_366 rfl rfl (by omega) (by decide) (fun _ h9 => h9) (by decide) (Nat.le_trans (Nat.add_le_add_left (by omega : 24 ≤ 24) _) (by decide)) d_p15m1_176 (fun q654 H hq655 hz656 w => ?_)
  refine W.widen (k := 21) (n := 3080) (by decide) (by omega) ?_
  obtain ⟨h657, u660⟩ : ∃ z, z = pd_up h630 q654 (55, .inl (.int, 24, .inl (fun _ => 0))) := ⟨_, rfl⟩
  rw [← u660] at w
  have k658 : pd_kx [] h630 h657 := by rw [u660]; exact pd_new_kx hq655
  have f659 : h657 q654 = some (55, .inl (.int, 24, .inl (fun _ => 0))) := by rw [u660]; exact pd_up_s _ _ _
  have f661 := k658 _ _ f632 List.not_mem_nil
  have f662 := k658 _ _ f634 List.not_mem_nil
  have f663 := k658 _ _ f635 List.not_mem_nil
  have f664 := k658 _ _ f636 List.not_mem_nil
  have f665 := k658 _ _ f637 List.not_mem_nil
  have f666 := k658 _ _ f638 List.not_mem_nil
  have f667 := k658 _ _ f639 List.not_mem_nil
  have f668 := k658 _ _ f640 List.not_mem_nil
  have f669 := k658 _ _ f641 List.not_mem_nil
  have f670 := k658 _ _ f642 List.not_mem_nil
  have f671 := k658 _ _ f643 List.not_mem_nil
  have f672 := k658 _ _ f644 List.not_mem_nil
  have f673 := k658 _ _ f645 List.not_mem_nil
  have f674 := k658 _ _ f646 List.not_mem_nil
  have f675 := k658 _ _ f647 List.not_mem_nil
  have f676 := k658 _ _ f648 List.not_mem_nil
  have f677 := k658 _ _ f649 List.not_mem_nil
  have f678 := k658 _ _ f650 List.not_mem_nil
  have f679 := k658 _ _ f651 List.not_mem_nil
  have f680 := k658 _ _ f652 List.not_mem_nil
  have f681 := k658 _ _ f653 List.not_mem_nil
  refine pd_putF (ty := (.array .int)) X w f661 hz_y rfl 25 (by decide) mT_1164 rfl rfl hmn rfl (by decide +kernel) rfl rfl (Nat.le_of_ble_eq_true rfl) d_p15m1_178 (fun H locs w => ?_)
  have w : pd_w G s H locs (pd_up h657 y (20, .inr (10, [.ref q1, .ref q14, .ref q29, .int (nI 0), .int (nI 0), .int (nI 0), .ref q46, .ref q65, .ref q86, .ref q109, .ref q134, .ref q161, .int (nI 2), .ref q203, .ref q234, .ref q267, .ref q302, .ref q339, .ref q378, .ref q419, .int (nI 0), .ref q462, .ref q507, .ref q554, .ref q603, .ref q654, .null, .null, .null, .int (nI 0), .null, .null, .int (nI 0), .int (nI 0), .int (nI 0), .int (nI 0), .long 0, .int (nI 0), .int (nI 0), .int (nI 0), .int (nI 0), .null, .null, .int (nI 0)]))) := w
  obtain ⟨h682, u685⟩ : ∃ z, z = pd_up h657 y (20, .inr (10, [.ref q1, .ref q14, .ref q29, .int (nI 0), .int (nI 0), .int (nI 0), .ref q46, .ref q65, .ref q86, .ref q109, .ref q134, .ref q161, .int (nI 2), .ref q203, .ref q234, .ref q267, .ref q302, .ref q339, .ref q378, .ref q419, .int (nI 0), .ref q462, .ref q507, .ref q554, .ref q603, .ref q654, .null, .null, .null, .int (nI 0), .null, .null, .int (nI 0), .int (nI 0), .int (nI 0), .int (nI 0), .long 0, .int (nI 0), .int (nI 0), .int (nI 0), .int (nI 0), .null, .null, .int (nI 0)])) := ⟨_, rfl⟩
  rw [← u685] at w
  have k683 : pd_kq y h657 h682 := by rw [u685]; exact pd_up_kq
  have f684 : h682 y = some (20, .inr (10, [.ref q1, .ref q14, .ref q29, .int (nI 0), .int (nI 0), .int (nI 0), .ref q46, .ref q65, .ref q86, .ref q109, .ref q134, .ref q161, .int (nI 2), .ref q203, .ref q234, .ref q267, .ref q302, .ref q339, .ref q378, .ref q419, .int (nI 0), .ref q462, .ref q507, .ref q554, .ref q603, .ref q654, .null, .null, .null, .int (nI 0), .null, .null, .int (nI 0), .int (nI 0), .int (nI 0), .int (nI 0), .long 0, .int (nI 0), .int (nI 0), .int (nI 0), .int (nI 0), .null, .null, .int (nI 0)])) := by rw [u685]; exact pd_up_s _ _ _
  have f686 := k683 _ _ (pd_ne f662 f661 (by simp)) f662
  have f687 := k683 _ _ (pd_ne f663 f661 (by simp)) f663
  have f688 := k683 _ _ (pd_ne f664 f661 (by simp)) f664
  have f689 := k683 _ _ (pd_ne f665 f661 (by simp)) f665
  have f690 := k683 _ _ (pd_ne f666 f661 (by simp)) f666
  have f691 := k683 _ _ (pd_ne f667 f661 (by simp)) f667
  have f692 := k683 _ _ (pd_ne f668 f661 (by simp)) f668
  have f693 := k683 _ _ (pd_ne f669 f661 (by simp)) f669
  have f694 := k683 _ _ (pd_ne f670 f661 (by simp)) f670
  have f695 := k683 _ _ (pd_ne f671 f661 (by simp)) f671
  have f696 := k683 _ _ (pd_ne f672 f661 (by simp)) f672
  have f697 := k683 _ _ (pd_ne f673 f661 (by simp)) f673
  have f698 := k683 _ _ (pd_ne f674 f661 (by simp)) f674
  have f699 := k683 _ _ (pd_ne f675 f661 (by simp)) f675
  have f700 := k683 _ _ (pd_ne f676 f661 (by simp)) f676
  have f701 := k683 _ _ (pd_ne f677 f661 (by simp)) f677
  have f702 := k683 _ _ (pd_ne f678 f661 (by simp)) f678
  have f703 := k683 _ _ (pd_ne f679 f661 (by simp)) f679
  have f704 := k683 _ _ (pd_ne f680 f661 (by simp)) f680
  have f705 := k683 _ _ (pd_ne f681 f661 (by simp)) f681
  have f706 := k683 _ _ (pd_ne f659 f661 (by simp)) f659
  refine lv_aload_n hx hb d_p15m1_181 rfl (lv_at hl 0 rfl) ?_
  refine lv_sipush (v := nI 1440) hx hb d_p15m1_182 (by decide) ?_
  refine pd_newa (ty := .int) (x := (1440, .inl (fun _ => 0))) 56 X w rfl mT_366 rfl rfl (by omega) (by decide) (fun _ h9 => h9) (by decide) (Nat.le_trans (Nat.add_le_add_left (by omega : 1440 ≤ 1440) _) (by decide)) d_p15m1_185 (fun q707 H hq708 hz709 w => ?_)
  refine W.widen (k := 22) (n := 4520) (by decide) (by omega) ?_
  obtain ⟨h710, u713⟩ : ∃ z, z = pd_up h682 q707 (56, .inl (.int, 1440, .inl (fun _ => 0))) := ⟨_, rfl⟩
  rw [← u713] at w
  have k711 : pd_kx [] h682 h710 := by rw [u713]; exact pd_new_kx hq708
  have f712 : h710 q707 = some (56, .inl (.int, 1440, .inl (fun _ => 0))) := by rw [u713]; exact pd_up_s _ _ _
  have f714 := k711 _ _ f684 List.not_mem_nil
  have f715 := k711 _ _ f686 List.not_mem_nil
  have f716 := k711 _ _ f687 List.not_mem_nil
  have f717 := k711 _ _ f688 List.not_mem_nil
  have f718 := k711 _ _ f689 List.not_mem_nil
  have f719 := k711 _ _ f690 List.not_mem_nil
  have f720 := k711 _ _ f691 List.not_mem_nil
  have f721 := k711 _ _ f692 List.not_mem_nil
  have f722 := k711 _ _ f693 List.not_mem_nil
  have f723 := k711 _ _ f694 List.not_mem_nil
  have f724 := k711 _ _ f695 List.not_mem_nil
  have f725 := k711 _ _ f696 List.not_mem_nil
  have f726 := k711 _ _ f697 List.not_mem_nil
  have f727 := k711 _ _ f698 List.not_mem_nil
  have f728 := k711 _ _ f699 List.not_mem_nil
  have f729 := k711 _ _ f700 List.not_mem_nil
  have f730 := k711 _ _ f701 List.not_mem_nil
  have f731 := k711 _ _ f702 List.not_mem_nil
  have f732 := k711 _ _ f703 List.not_mem_nil
  have f733 := k711 _ _ f704 List.not_mem_nil
  have f734 := k711 _ _ f705 List.not_mem_nil
  have f735 := k711 _ _ f706 List.not_mem_nil
  refine pd_putF (ty := (.array .int)) X w f714 hz_y rfl 26 (by decide) mT_1165 rfl rfl hmn rfl (by decide +kernel) rfl rfl (Nat.le_of_ble_eq_true rfl) d_p15m1_187 (fun H locs w => ?_)
  have w : pd_w G s H locs (pd_up h710 y (20, .inr (10, [.ref q1, .ref q14, .ref q29, .int (nI 0), .int (nI 0), .int (nI 0), .ref q46, .ref q65, .ref q86, .ref q109, .ref q134, .ref q161, .int (nI 2), .ref q203, .ref q234, .ref q267, .ref q302, .ref q339, .ref q378, .ref q419, .int (nI 0), .ref q462, .ref q507, .ref q554, .ref q603, .ref q654, .ref q707, .null, .null, .int (nI 0), .null, .null, .int (nI 0), .int (nI 0), .int (nI 0), .int (nI 0), .long 0, .int (nI 0), .int (nI 0), .int (nI 0), .int (nI 0), .null, .null, .int (nI 0)]))) := w
  obtain ⟨h736, u739⟩ : ∃ z, z = pd_up h710 y (20, .inr (10, [.ref q1, .ref q14, .ref q29, .int (nI 0), .int (nI 0), .int (nI 0), .ref q46, .ref q65, .ref q86, .ref q109, .ref q134, .ref q161, .int (nI 2), .ref q203, .ref q234, .ref q267, .ref q302, .ref q339, .ref q378, .ref q419, .int (nI 0), .ref q462, .ref q507, .ref q554, .ref q603, .ref q654, .ref q707, .null, .null, .int (nI 0), .null, .null, .int (nI 0), .int (nI 0), .int (nI 0), .int (nI 0), .long 0, .int (nI 0), .int (nI 0), .int (nI 0), .int (nI 0), .null, .null, .int (nI 0)])) := ⟨_, rfl⟩
  rw [← u739] at w
  have k737 : pd_kq y h710 h736 := by rw [u739]; exact pd_up_kq
  have f738 : h736 y = some (20, .inr (10, [.ref q1, .ref q14, .ref q29, .int (nI 0), .int (nI 0), .int (nI 0), .ref q46, .ref q65, .ref q86, .ref q109, .ref q134, .ref q161, .int (nI 2), .ref q203, .ref q234, .ref q267, .ref q302, .ref q339, .ref q378, .ref q419, .int (nI 0), .ref q462, .ref q507, .ref q554, .ref q603, .ref q654, .ref q707, .null, .null, .int (nI 0), .null, .null, .int (nI 0), .int (nI 0), .int (nI 0), .int (nI 0), .long 0, .int (nI 0), .int (nI 0), .int (nI 0), .int (nI 0), .null, .null, .int (nI 0)])) := by rw [u739]; exact pd_up_s _ _ _
  have f740 := k737 _ _ (pd_ne f715 f714 (by simp)) f715
  have f741 := k737 _ _ (pd_ne f716 f714 (by simp)) f716
  have f742 := k737 _ _ (pd_ne f717 f714 (by simp)) f717
  have f743 := k737 _ _ (pd_ne f718 f714 (by simp)) f718
  have f744 := k737 _ _ (pd_ne f719 f714 (by simp)) f719
  have f745 := k737 _ _ (pd_ne f720 f714 (by simp)) f720
  have f746 := k737 _ _ (pd_ne f721 f714 (by simp)) f721
  have f747 := k737 _ _ (pd_ne f722 f714 (by simp)) f722
  have f748 := k737 _ _ (pd_ne f723 f714 (by simp)) f723
  have f749 := k737 _ _ (pd_ne f724 f714 (by simp)) f724
  have f750 := k737 _ _ (pd_ne f725 f714 (by simp)) f725
  have f751 := k737 _ _ (pd_ne f726 f714 (by simp)) f726
  have f752 := k737 _ _ (pd_ne f727 f714 (by simp)) f727
  have f753 := k737 _ _ (pd_ne f728 f714 (by simp)) f728
  have f754 := k737 _ _ (pd_ne f729 f714 (by simp)) f729
  have f755 := k737 _ _ (pd_ne f730 f714 (by simp)) f730
  have f756 := k737 _ _ (pd_ne f731 f714 (by simp)) f731
  have f757 := k737 _ _ (pd_ne f732 f714 (by simp)) f732
  have f758 := k737 _ _ (pd_ne f733 f714 (by simp)) f733
  have f759 := k737 _ _ (pd_ne f734 f714 (by simp)) f734
  have f760 := k737 _ _ (pd_ne f735 f714 (by simp)) f735
  have f761 := k737 _ _ (pd_ne f712 f714 (by simp)) f712
  refine lv_aload_n hx hb d_p15m1_190 rfl (lv_at hl 0 rfl) ?_
  refine lv_bipush (v := nI 24) hx hb d_p15m1_191 (by decide) ?_
  refine pd_newa (ty := .int) (x := (24, .inl (fun _ => 0))) 57 X w rfl mT_366 rfl rfl (by omega) (by decide) (fun _ h9 => h9) (by decide) (Nat.le_trans (Nat.add_le_add_left (by omega : 24 ≤ 24) _) (by decide)) d_p15m1_193 (fun q762 H hq763 hz764 w => ?_)
  refine W.widen (k := 23) (n := 4544) (by decide) (by omega) ?_
  obtain ⟨h765, u768⟩ : ∃ z, z = pd_up h736 q762 (57, .inl (.int, 24, .inl (fun _ => 0))) := ⟨_, rfl⟩
  rw [← u768] at w
  have k766 : pd_kx [] h736 h765 := by rw [u768]; exact pd_new_kx hq763
  have f767 : h765 q762 = some (57, .inl (.int, 24, .inl (fun _ => 0))) := by rw [u768]; exact pd_up_s _ _ _
  have f769 := k766 _ _ f738 List.not_mem_nil
  have f770 := k766 _ _ f740 List.not_mem_nil
  have f771 := k766 _ _ f741 List.not_mem_nil
  have f772 := k766 _ _ f742 List.not_mem_nil
  have f773 := k766 _ _ f743 List.not_mem_nil
  have f774 := k766 _ _ f744 List.not_mem_nil
  have f775 := k766 _ _ f745 List.not_mem_nil
  have f776 := k766 _ _ f746 List.not_mem_nil
  have f777 := k766 _ _ f747 List.not_mem_nil
  have f778 := k766 _ _ f748 List.not_mem_nil
  have f779 := k766 _ _ f749 List.not_mem_nil
  have f780 := k766 _ _ f750 List.not_mem_nil
  have f781 := k766 _ _ f751 List.not_mem_nil
  have f782 := k766 _ _ f752 List.not_mem_nil
  have f783 := k766 _ _ f753 List.not_mem_nil
  have f784 := k766 _ _ f754 List.not_mem_nil
  have f785 := k766 _ _ f755 List.not_mem_nil
  have f786 := k766 _ _ f756 List.not_mem_nil
  have f787 := k766 _ _ f757 List.not_mem_nil
  have f788 := k766 _ _ f758 List.not_mem_nil
  have f789 := k766 _ _ f759 List.not_mem_nil
  have f790 := k766 _ _ f760 List.not_mem_nil
  have f791 := k766 _ _ f761 List.not_mem_nil
  refine pd_putF (ty := (.array .int)) X w f769 hz_y rfl 27 (by decide) mT_1166 rfl rfl hmn rfl (by decide +kernel) rfl rfl (Nat.le_of_ble_eq_true rfl) d_p15m1_195 (fun H locs w => ?_)
  have w : pd_w G s H locs (pd_up h765 y (20, .inr (10, [.ref q1, .ref q14, .ref q29, .int (nI 0), .int (nI 0), .int (nI 0), .ref q46, .ref q65, .ref q86, .ref q109, .ref q134, .ref q161, .int (nI 2), .ref q203, .ref q234, .ref q267, .ref q302, .ref q339, .ref q378, .ref q419, .int (nI 0), .ref q462, .ref q507, .ref q554, .ref q603, .ref q654, .ref q707, .ref q762, .null, .int (nI 0), .null, .null, .int (nI 0), .int (nI 0), .int (nI 0), .int (nI 0), .long 0, .int (nI 0), .int (nI 0), .int (nI 0), .int (nI 0), .null, .null, .int (nI 0)]))) := w
  obtain ⟨h792, u795⟩ : ∃ z, z = pd_up h765 y (20, .inr (10, [.ref q1, .ref q14, .ref q29, .int (nI 0), .int (nI 0), .int (nI 0), .ref q46, .ref q65, .ref q86, .ref q109, .ref q134, .ref q161, .int (nI 2), .ref q203, .ref q234, .ref q267, .ref q302, .ref q339, .ref q378, .ref q419, .int (nI 0), .ref q462, .ref q507, .ref q554, .ref q603, .ref q654, .ref q707, .ref q762, .null, .int (nI 0), .null, .null, .int (nI 0), .int (nI 0), .int (nI 0), .int (nI 0), .long 0, .int (nI 0), .int (nI 0), .int (nI 0), .int (nI 0), .null, .null, .int (nI 0)])) := ⟨_, rfl⟩
  rw [← u795] at w
  have k793 : pd_kq y h765 h792 := by rw [u795]; exact pd_up_kq
  have f794 : h792 y = some (20, .inr (10, [.ref q1, .ref q14, .ref q29, .int (nI 0), .int (nI 0), .int (nI 0), .ref q46, .ref q65, .ref q86, .ref q109, .ref q134, .ref q161, .int (nI 2), .ref q203, .ref q234, .ref q267, .ref q302, .ref q339, .ref q378, .ref q419, .int (nI 0), .ref q462, .ref q507, .ref q554, .ref q603, .ref q654, .ref q707, .ref q762, .null, .int (nI 0), .null, .null, .int (nI 0), .int (nI 0), .int (nI 0), .int (nI 0), .long 0, .int (nI 0), .int (nI 0), .int (nI 0), .int (nI 0), .null, .null, .int (nI 0)])) := by rw [u795]; exact pd_up_s _ _ _
  have f796 := k793 _ _ (pd_ne f770 f769 (by simp)) f770
  have f797 := k793 _ _ (pd_ne f771 f769 (by simp)) f771
  have f798 := k793 _ _ (pd_ne f772 f769 (by simp)) f772
  have f799 := k793 _ _ (pd_ne f773 f769 (by simp)) f773
  have f800 := k793 _ _ (pd_ne f774 f769 (by simp)) f774
  have f801 := k793 _ _ (pd_ne f775 f769 (by simp)) f775
  have f802 := k793 _ _ (pd_ne f776 f769 (by simp)) f776
  have f803 := k793 _ _ (pd_ne f777 f769 (by simp)) f777
  have f804 := k793 _ _ (pd_ne f778 f769 (by simp)) f778
  have f805 := k793 _ _ (pd_ne f779 f769 (by simp)) f779
  have f806 := k793 _ _ (pd_ne f780 f769 (by simp)) f780
  have f807 := k793 _ _ (pd_ne f781 f769 (by simp)) f781
  have f808 := k793 _ _ (pd_ne f782 f769 (by simp)) f782
  have f809 := k793 _ _ (pd_ne f783 f769 (by simp)) f783
  have f810 := k793 _ _ (pd_ne f784 f769 (by simp)) f784
  have f811 := k793 _ _ (pd_ne f785 f769 (by simp)) f785
  have f812 := k793 _ _ (pd_ne f786 f769 (by simp)) f786
  have f813 := k793 _ _ (pd_ne f787 f769 (by simp)) f787
  have f814 := k793 _ _ (pd_ne f788 f769 (by simp)) f788
  have f815 := k793 _ _ (pd_ne f789 f769 (by simp)) f789
  have f816 := k793 _ _ (pd_ne f790 f769 (by simp)) f790
  have f817 := k793 _ _ (pd_ne f791 f769 (by simp)) f791
  have f818 := k793 _ _ (pd_ne f767 f769 (by simp)) f767
  refine lv_aload_n hx hb d_p15m1_198 rfl (lv_at hl 0 rfl) ?_
  refine lv_bipush (v := nI 24) hx hb d_p15m1_199 (by decide) ?_
  refine pd_newa (ty := .int) (x := (24, .inl (fun _ => 0))) 58 X w rfl mT_366 rfl rfl (by omega) (by decide) (fun _ h9 => h9) (by decide) (Nat.le_trans (Nat.add_le_add_left (by omega : 24 ≤ 24) _) (by decide)) d_p15m1_201 (fun q819 H hq820 hz821 w => ?_)
  refine W.widen (k := 24) (n := 4568) (by decide) (by omega) ?_
  obtain ⟨h822, u825⟩ : ∃ z, z = pd_up h792 q819 (58, .inl (.int, 24, .inl (fun _ => 0))) := ⟨_, rfl⟩
  rw [← u825] at w
  have k823 : pd_kx [] h792 h822 := by rw [u825]; exact pd_new_kx hq820
  have f824 : h822 q819 = some (58, .inl (.int, 24, .inl (fun _ => 0))) := by rw [u825]; exact pd_up_s _ _ _
  have f826 := k823 _ _ f794 List.not_mem_nil
  have f827 := k823 _ _ f796 List.not_mem_nil
  have f828 := k823 _ _ f797 List.not_mem_nil
  have f829 := k823 _ _ f798 List.not_mem_nil
  have f830 := k823 _ _ f799 List.not_mem_nil
  have f831 := k823 _ _ f800 List.not_mem_nil
  have f832 := k823 _ _ f801 List.not_mem_nil
  have f833 := k823 _ _ f802 List.not_mem_nil
  have f834 := k823 _ _ f803 List.not_mem_nil
  have f835 := k823 _ _ f804 List.not_mem_nil
  have f836 := k823 _ _ f805 List.not_mem_nil
  have f837 := k823 _ _ f806 List.not_mem_nil
  have f838 := k823 _ _ f807 List.not_mem_nil
  have f839 := k823 _ _ f808 List.not_mem_nil
  have f840 := k823 _ _ f809 List.not_mem_nil
  have f841 := k823 _ _ f810 List.not_mem_nil
  have f842 := k823 _ _ f811 List.not_mem_nil
  have f843 := k823 _ _ f812 List.not_mem_nil
  have f844 := k823 _ _ f813 List.not_mem_nil
  have f845 := k823 _ _ f814 List.not_mem_nil
  have f846 := k823 _ _ f815 List.not_mem_nil
  have f847 := k823 _ _ f816 List.not_mem_nil
  have f848 := k823 _ _ f817 List.not_mem_nil
  have f849 := k823 _ _ f818 List.not_mem_nil
  refine pd_putF (ty := (.array .int)) X w f826 hz_y rfl 28 (by decide) mT_1167 rfl rfl hmn rfl (by decide +kernel) rfl rfl (Nat.le_of_ble_eq_true rfl) d_p15m1_203 (fun H locs w => ?_)
  have w : pd_w G s H locs (pd_up h822 y (20, .inr (10, [.ref q1, .ref q14, .ref q29, .int (nI 0), .int (nI 0), .int (nI 0), .ref q46, .ref q65, .ref q86, .ref q109, .ref q134, .ref q161, .int (nI 2), .ref q203, .ref q234, .ref q267, .ref q302, .ref q339, .ref q378, .ref q419, .int (nI 0), .ref q462, .ref q507, .ref q554, .ref q603, .ref q654, .ref q707, .ref q762, .ref q819, .int (nI 0), .null, .null, .int (nI 0), .int (nI 0), .int (nI 0), .int (nI 0), .long 0, .int (nI 0), .int (nI 0), .int (nI 0), .int (nI 0), .null, .null, .int (nI 0)]))) := w
  obtain ⟨h850, u853⟩ : ∃ z, z = pd_up h822 y (20, .inr (10, [.ref q1, .ref q14, .ref q29, .int (nI 0), .int (nI 0), .int (nI 0), .ref q46, .ref q65, .ref q86, .ref q109, .ref q134, .ref q161, .int (nI 2), .ref q203, .ref q234, .ref q267, .ref q302, .ref q339, .ref q378, .ref q419, .int (nI 0), .ref q462, .ref q507, .ref q554, .ref q603, .ref q654, .ref q707, .ref q762, .ref q819, .int (nI 0), .null, .null, .int (nI 0), .int (nI 0), .int (nI 0), .int (nI 0), .long 0, .int (nI 0), .int (nI 0), .int (nI 0), .int (nI 0), .null, .null, .int (nI 0)])) := ⟨_, rfl⟩
  rw [← u853] at w
  have k851 : pd_kq y h822 h850 := by rw [u853]; exact pd_up_kq
  have f852 : h850 y = some (20, .inr (10, [.ref q1, .ref q14, .ref q29, .int (nI 0), .int (nI 0), .int (nI 0), .ref q46, .ref q65, .ref q86, .ref q109, .ref q134, .ref q161, .int (nI 2), .ref q203, .ref q234, .ref q267, .ref q302, .ref q339, .ref q378, .ref q419, .int (nI 0), .ref q462, .ref q507, .ref q554, .ref q603, .ref q654, .ref q707, .ref q762, .ref q819, .int (nI 0), .null, .null, .int (nI 0), .int (nI 0), .int (nI 0), .int (nI 0), .long 0, .int (nI 0), .int (nI 0), .int (nI 0), .int (nI 0), .null, .null, .int (nI 0)])) := by rw [u853]; exact pd_up_s _ _ _
  have f854 := k851 _ _ (pd_ne f827 f826 (by simp)) f827
  have f855 := k851 _ _ (pd_ne f828 f826 (by simp)) f828
  have f856 := k851 _ _ (pd_ne f829 f826 (by simp)) f829
  have f857 := k851 _ _ (pd_ne f830 f826 (by simp)) f830
  have f858 := k851 _ _ (pd_ne f831 f826 (by simp)) f831
  have f859 := k851 _ _ (pd_ne f832 f826 (by simp)) f832
  have f860 := k851 _ _ (pd_ne f833 f826 (by simp)) f833
  have f861 := k851 _ _ (pd_ne f834 f826 (by simp)) f834
  have f862 := k851 _ _ (pd_ne f835 f826 (by simp)) f835
  have f863 := k851 _ _ (pd_ne f836 f826 (by simp)) f836
  have f864 := k851 _ _ (pd_ne f837 f826 (by simp)) f837
  have f865 := k851 _ _ (pd_ne f838 f826 (by simp)) f838
  have f866 := k851 _ _ (pd_ne f839 f826 (by simp)) f839
  have f867 := k851 _ _ (pd_ne f840 f826 (by simp)) f840
  have f868 := k851 _ _ (pd_ne f841 f826 (by simp)) f841
  have f869 := k851 _ _ (pd_ne f842 f826 (by simp)) f842
  have f870 := k851 _ _ (pd_ne f843 f826 (by simp)) f843
  have f871 := k851 _ _ (pd_ne f844 f826 (by simp)) f844
  have f872 := k851 _ _ (pd_ne f845 f826 (by simp)) f845
  have f873 := k851 _ _ (pd_ne f846 f826 (by simp)) f846
  have f874 := k851 _ _ (pd_ne f847 f826 (by simp)) f847
  have f875 := k851 _ _ (pd_ne f848 f826 (by simp)) f848
  have f876 := k851 _ _ (pd_ne f849 f826 (by simp)) f849
  have f877 := k851 _ _ (pd_ne f824 f826 (by simp)) f824
  refine lv_aload_n hx hb d_p15m1_206 rfl (lv_at hl 0 rfl) ?_
  refine lv_sipush (v := nI 1152) hx hb d_p15m1_207 (by decide) ?_
  refine pd_newa (ty := .int) (x := (1152, .inl (fun _ => 0))) 60 X w rfl mT_366 rfl rfl (by omega) (by decide) (fun _ h9 => h9) (by decide) (Nat.le_trans (Nat.add_le_add_left (by omega : 1152 ≤ 1152) _) (by decide)) d_p15m1_210 (fun q878 H hq879 hz880 w => ?_)
  refine W.widen (k := 25) (n := 5720) (by decide) (by omega) ?_
  obtain ⟨h881, u884⟩ : ∃ z, z = pd_up h850 q878 (60, .inl (.int, 1152, .inl (fun _ => 0))) := ⟨_, rfl⟩
  rw [← u884] at w
  have k882 : pd_kx [] h850 h881 := by rw [u884]; exact pd_new_kx hq879
  have f883 : h881 q878 = some (60, .inl (.int, 1152, .inl (fun _ => 0))) := by rw [u884]; exact pd_up_s _ _ _
  have f885 := k882 _ _ f852 List.not_mem_nil
  have f886 := k882 _ _ f854 List.not_mem_nil
  have f887 := k882 _ _ f855 List.not_mem_nil
  have f888 := k882 _ _ f856 List.not_mem_nil
  have f889 := k882 _ _ f857 List.not_mem_nil
  have f890 := k882 _ _ f858 List.not_mem_nil
  have f891 := k882 _ _ f859 List.not_mem_nil
  have f892 := k882 _ _ f860 List.not_mem_nil
  have f893 := k882 _ _ f861 List.not_mem_nil
  have f894 := k882 _ _ f862 List.not_mem_nil
  have f895 := k882 _ _ f863 List.not_mem_nil
  have f896 := k882 _ _ f864 List.not_mem_nil
  have f897 := k882 _ _ f865 List.not_mem_nil
  have f898 := k882 _ _ f866 List.not_mem_nil
  have f899 := k882 _ _ f867 List.not_mem_nil
  have f900 := k882 _ _ f868 List.not_mem_nil
  have f901 := k882 _ _ f869 List.not_mem_nil
  have f902 := k882 _ _ f870 List.not_mem_nil
  have f903 := k882 _ _ f871 List.not_mem_nil
  have f904 := k882 _ _ f872 List.not_mem_nil
  have f905 := k882 _ _ f873 List.not_mem_nil
  have f906 := k882 _ _ f874 List.not_mem_nil
  have f907 := k882 _ _ f875 List.not_mem_nil
  have f908 := k882 _ _ f876 List.not_mem_nil
  have f909 := k882 _ _ f877 List.not_mem_nil
  refine pd_putF (ty := (.array .int)) X w f885 hz_y rfl 30 (by decide) mT_1169 rfl rfl hmn rfl (by decide +kernel) rfl rfl (Nat.le_of_ble_eq_true rfl) d_p15m1_212 (fun H locs w => ?_)
  have w : pd_w G s H locs (pd_up h881 y (20, .inr (10, [.ref q1, .ref q14, .ref q29, .int (nI 0), .int (nI 0), .int (nI 0), .ref q46, .ref q65, .ref q86, .ref q109, .ref q134, .ref q161, .int (nI 2), .ref q203, .ref q234, .ref q267, .ref q302, .ref q339, .ref q378, .ref q419, .int (nI 0), .ref q462, .ref q507, .ref q554, .ref q603, .ref q654, .ref q707, .ref q762, .ref q819, .int (nI 0), .ref q878, .null, .int (nI 0), .int (nI 0), .int (nI 0), .int (nI 0), .long 0, .int (nI 0), .int (nI 0), .int (nI 0), .int (nI 0), .null, .null, .int (nI 0)]))) := w
  obtain ⟨h910, u913⟩ : ∃ z, z = pd_up h881 y (20, .inr (10, [.ref q1, .ref q14, .ref q29, .int (nI 0), .int (nI 0), .int (nI 0), .ref q46, .ref q65, .ref q86, .ref q109, .ref q134, .ref q161, .int (nI 2), .ref q203, .ref q234, .ref q267, .ref q302, .ref q339, .ref q378, .ref q419, .int (nI 0), .ref q462, .ref q507, .ref q554, .ref q603, .ref q654, .ref q707, .ref q762, .ref q819, .int (nI 0), .ref q878, .null, .int (nI 0), .int (nI 0), .int (nI 0), .int (nI 0), .long 0, .int (nI 0), .int (nI 0), .int (nI 0), .int (nI 0), .null, .null, .int (nI 0)])) := ⟨_, rfl⟩
  rw [← u913] at w
  have k911 : pd_kq y h881 h910 := by rw [u913]; exact pd_up_kq
  have f912 : h910 y = some (20, .inr (10, [.ref q1, .ref q14, .ref q29, .int (nI 0), .int (nI 0), .int (nI 0), .ref q46, .ref q65, .ref q86, .ref q109, .ref q134, .ref q161, .int (nI 2), .ref q203, .ref q234, .ref q267, .ref q302, .ref q339, .ref q378, .ref q419, .int (nI 0), .ref q462, .ref q507, .ref q554, .ref q603, .ref q654, .ref q707, .ref q762, .ref q819, .int (nI 0), .ref q878, .null, .int (nI 0), .int (nI 0), .int (nI 0), .int (nI 0), .long 0, .int (nI 0), .int (nI 0), .int (nI 0), .int (nI 0), .null, .null, .int (nI 0)])) := by rw [u913]; exact pd_up_s _ _ _
  have f914 := k911 _ _ (pd_ne f886 f885 (by simp)) f886
  have f915 := k911 _ _ (pd_ne f887 f885 (by simp)) f887
  have f916 := k911 _ _ (pd_ne f888 f885 (by simp)) f888
  have f917 := k911 _ _ (pd_ne f889 f885 (by simp)) f889
  have f918 := k911 _ _ (pd_ne f890 f885 (by simp)) f890
  have f919 := k911 _ _ (pd_ne f891 f885 (by simp)) f891
  have f920 := k911 _ _ (pd_ne f892 f885 (by simp)) f892
  have f921 := k911 _ _ (pd_ne f893 f885 (by simp)) f893
  have f922 := k911 _ _ (pd_ne f894 f885 (by simp)) f894
  have f923 := k911 _ _ (pd_ne f895 f885 (by simp)) f895
  have f924 := k911 _ _ (pd_ne f896 f885 (by simp)) f896
  have f925 := k911 _ _ (pd_ne f897 f885 (by simp)) f897
  have f926 := k911 _ _ (pd_ne f898 f885 (by simp)) f898
  have f927 := k911 _ _ (pd_ne f899 f885 (by simp)) f899
  have f928 := k911 _ _ (pd_ne f900 f885 (by simp)) f900
  have f929 := k911 _ _ (pd_ne f901 f885 (by simp)) f901
  have f930 := k911 _ _ (pd_ne f902 f885 (by simp)) f902
  have f931 := k911 _ _ (pd_ne f903 f885 (by simp)) f903
  have f932 := k911 _ _ (pd_ne f904 f885 (by simp)) f904
  have f933 := k911 _ _ (pd_ne f905 f885 (by simp)) f905
  have f934 := k911 _ _ (pd_ne f906 f885 (by simp)) f906
  have f935 := k911 _ _ (pd_ne f907 f885 (by simp)) f907
  have f936 := k911 _ _ (pd_ne f908 f885 (by simp)) f908
  have f937 := k911 _ _ (pd_ne f909 f885 (by simp)) f909
  have f938 := k911 _ _ (pd_ne f883 f885 (by simp)) f883
  refine lv_aload_n hx hb d_p15m1_215 rfl (lv_at hl 0 rfl) ?_
  refine lv_bipush (v := nI 12) hx hb d_p15m1_216 (by decide) ?_
  refine pd_newa (ty := .int) (x := (12, .inl (fun _ => 0))) 61 X w rfl mT_366 rfl rfl (by omega) (by decide) (fun _ h9 => h9) (by decide) (Nat.le_trans (Nat.add_le_add_left (by omega : 12 ≤ 12) _) (by decide)) d_p15m1_218 (fun q939 H hq940 hz941 w => ?_)
  refine W.widen (k := 26) (n := 5732) (by decide) (by omega) ?_
  obtain ⟨h942, u945⟩ : ∃ z, z = pd_up h910 q939 (61, .inl (.int, 12, .inl (fun _ => 0))) := ⟨_, rfl⟩
  rw [← u945] at w
  have k943 : pd_kx [] h910 h942 := by rw [u945]; exact pd_new_kx hq940
  have f944 : h942 q939 = some (61, .inl (.int, 12, .inl (fun _ => 0))) := by rw [u945]; exact pd_up_s _ _ _
  have f946 := k943 _ _ f912 List.not_mem_nil
  have f947 := k943 _ _ f914 List.not_mem_nil
  have f948 := k943 _ _ f915 List.not_mem_nil
  have f949 := k943 _ _ f916 List.not_mem_nil
  have f950 := k943 _ _ f917 List.not_mem_nil
  have f951 := k943 _ _ f918 List.not_mem_nil
  have f952 := k943 _ _ f919 List.not_mem_nil
  have f953 := k943 _ _ f920 List.not_mem_nil
  have f954 := k943 _ _ f921 List.not_mem_nil
  have f955 := k943 _ _ f922 List.not_mem_nil
  have f956 := k943 _ _ f923 List.not_mem_nil
  have f957 := k943 _ _ f924 List.not_mem_nil
  have f958 := k943 _ _ f925 List.not_mem_nil
  have f959 := k943 _ _ f926 List.not_mem_nil
  have f960 := k943 _ _ f927 List.not_mem_nil
  have f961 := k943 _ _ f928 List.not_mem_nil
  have f962 := k943 _ _ f929 List.not_mem_nil
  have f963 := k943 _ _ f930 List.not_mem_nil
  have f964 := k943 _ _ f931 List.not_mem_nil
  have f965 := k943 _ _ f932 List.not_mem_nil
  have f966 := k943 _ _ f933 List.not_mem_nil
  have f967 := k943 _ _ f934 List.not_mem_nil
  have f968 := k943 _ _ f935 List.not_mem_nil
  have f969 := k943 _ _ f936 List.not_mem_nil
  have f970 := k943 _ _ f937 List.not_mem_nil
  have f971 := k943 _ _ f938 List.not_mem_nil
  refine pd_putF (ty := (.array .int)) X w f946 hz_y rfl 31 (by decide) mT_1170 rfl rfl hmn rfl (by decide +kernel) rfl rfl (Nat.le_of_ble_eq_true rfl) d_p15m1_220 (fun H locs w => ?_)
  have w : pd_w G s H locs (pd_up h942 y (20, .inr (10, [.ref q1, .ref q14, .ref q29, .int (nI 0), .int (nI 0), .int (nI 0), .ref q46, .ref q65, .ref q86, .ref q109, .ref q134, .ref q161, .int (nI 2), .ref q203, .ref q234, .ref q267, .ref q302, .ref q339, .ref q378, .ref q419, .int (nI 0), .ref q462, .ref q507, .ref q554, .ref q603, .ref q654, .ref q707, .ref q762, .ref q819, .int (nI 0), .ref q878, .ref q939, .int (nI 0), .int (nI 0), .int (nI 0), .int (nI 0), .long 0, .int (nI 0), .int (nI 0), .int (nI 0), .int (nI 0), .null, .null, .int (nI 0)]))) := w
  obtain ⟨h972, u975⟩ : ∃ z, z = pd_up h942 y (20, .inr (10, [.ref q1, .ref q14, .ref q29, .int (nI 0), .int (nI 0), .int (nI 0), .ref q46, .ref q65, .ref q86, .ref q109, .ref q134, .ref q161, .int (nI 2), .ref q203, .ref q234, .ref q267, .ref q302, .ref q339, .ref q378, .ref q419, .int (nI 0), .ref q462, .ref q507, .ref q554, .ref q603, .ref q654, .ref q707, .ref q762, .ref q819, .int (nI 0), .ref q878, .ref q939, .int (nI 0), .int (nI 0), .int (nI 0), .int (nI 0), .long 0, .int (nI 0), .int (nI 0), .int (nI 0), .int (nI 0), .null, .null, .int (nI 0)])) := ⟨_, rfl⟩
  rw [← u975] at w
  have k973 : pd_kq y h942 h972 := by rw [u975]; exact pd_up_kq
  have f974 : h972 y = some (20, .inr (10, [.ref q1, .ref q14, .ref q29, .int (nI 0), .int (nI 0), .int (nI 0), .ref q46, .ref q65, .ref q86, .ref q109, .ref q134, .ref q161, .int (nI 2), .ref q203, .ref q234, .ref q267, .ref q302, .ref q339, .ref q378, .ref q419, .int (nI 0), .ref q462, .ref q507, .ref q554, .ref q603, .ref q654, .ref q707, .ref q762, .ref q819, .int (nI 0), .ref q878, .ref q939, .int (nI 0), .int (nI 0), .int (nI 0), .int (nI 0), .long 0, .int (nI 0), .int (nI 0), .int (nI 0), .int (nI 0), .null, .null, .int (nI 0)])) := by rw [u975]; exact pd_up_s _ _ _
  have f976 := k973 _ _ (pd_ne f947 f946 (by simp)) f947
  have f977 := k973 _ _ (pd_ne f948 f946 (by simp)) f948
  have f978 := k973 _ _ (pd_ne f949 f946 (by simp)) f949
  have f979 := k973 _ _ (pd_ne f950 f946 (by simp)) f950
  have f980 := k973 _ _ (pd_ne f951 f946 (by simp)) f951
  have f981 := k973 _ _ (pd_ne f952 f946 (by simp)) f952
  have f982 := k973 _ _ (pd_ne f953 f946 (by simp)) f953
  have f983 := k973 _ _ (pd_ne f954 f946 (by simp)) f954
  have f984 := k973 _ _ (pd_ne f955 f946 (by simp)) f955
  have f985 := k973 _ _ (pd_ne f956 f946 (by simp)) f956
  have f986 := k973 _ _ (pd_ne f957 f946 (by simp)) f957
  have f987 := k973 _ _ (pd_ne f958 f946 (by simp)) f958
  have f988 := k973 _ _ (pd_ne f959 f946 (by simp)) f959
  have f989 := k973 _ _ (pd_ne f960 f946 (by simp)) f960
  have f990 := k973 _ _ (pd_ne f961 f946 (by simp)) f961
  have f991 := k973 _ _ (pd_ne f962 f946 (by simp)) f962
  have f992 := k973 _ _ (pd_ne f963 f946 (by simp)) f963
  have f993 := k973 _ _ (pd_ne f964 f946 (by simp)) f964
  have f994 := k973 _ _ (pd_ne f965 f946 (by simp)) f965
  have f995 := k973 _ _ (pd_ne f966 f946 (by simp)) f966
  have f996 := k973 _ _ (pd_ne f967 f946 (by simp)) f967
  have f997 := k973 _ _ (pd_ne f968 f946 (by simp)) f968
  have f998 := k973 _ _ (pd_ne f969 f946 (by simp)) f969
  have f999 := k973 _ _ (pd_ne f970 f946 (by simp)) f970
  have f1000 := k973 _ _ (pd_ne f971 f946 (by simp)) f971
  have f1001 := k973 _ _ (pd_ne f944 f946 (by simp)) f944
  refine lv_aload_n hx hb d_p15m1_223 rfl (lv_at hl 0 rfl) ?_
  refine lv_bipush (v := nI 16) hx hb d_p15m1_224 (by decide) ?_
  refine pd_newa (ty := .int) (x := (16, .inl (fun _ => 0))) 71 X w rfl mT_366 rfl rfl (by omega) (by decide) (fun _ h9 => h9) (by decide) (Nat.le_trans (Nat.add_le_add_left (by omega : 16 ≤ 16) _) (by decide)) d_p15m1_226 (fun q1002 H hq1003 hz1004 w => ?_)
  refine W.widen (k := 27) (n := 5748) (by decide) (by omega) ?_
  obtain ⟨h1005, u1008⟩ : ∃ z, z = pd_up h972 q1002 (71, .inl (.int, 16, .inl (fun _ => 0))) := ⟨_, rfl⟩
  rw [← u1008] at w
  have k1006 : pd_kx [] h972 h1005 := by rw [u1008]; exact pd_new_kx hq1003
  have f1007 : h1005 q1002 = some (71, .inl (.int, 16, .inl (fun _ => 0))) := by rw [u1008]; exact pd_up_s _ _ _
  have f1009 := k1006 _ _ f974 List.not_mem_nil
  have f1010 := k1006 _ _ f976 List.not_mem_nil
  have f1011 := k1006 _ _ f977 List.not_mem_nil
  have f1012 := k1006 _ _ f978 List.not_mem_nil
  have f1013 := k1006 _ _ f979 List.not_mem_nil
  have f1014 := k1006 _ _ f980 List.not_mem_nil
  have f1015 := k1006 _ _ f981 List.not_mem_nil
  have f1016 := k1006 _ _ f982 List.not_mem_nil
  have f1017 := k1006 _ _ f983 List.not_mem_nil
  have f1018 := k1006 _ _ f984 List.not_mem_nil
  have f1019 := k1006 _ _ f985 List.not_mem_nil
  have f1020 := k1006 _ _ f986 List.not_mem_nil
  have f1021 := k1006 _ _ f987 List.not_mem_nil
  have f1022 := k1006 _ _ f988 List.not_mem_nil
  have f1023 := k1006 _ _ f989 List.not_mem_nil
  have f1024 := k1006 _ _ f990 List.not_mem_nil
  have f1025 := k1006 _ _ f991 List.not_mem_nil
  have f1026 := k1006 _ _ f992 List.not_mem_nil
  have f1027 := k1006 _ _ f993 List.not_mem_nil
  have f1028 := k1006 _ _ f994 List.not_mem_nil
  have f1029 := k1006 _ _ f995 List.not_mem_nil
  have f1030 := k1006 _ _ f996 List.not_mem_nil
  have f1031 := k1006 _ _ f997 List.not_mem_nil
  have f1032 := k1006 _ _ f998 List.not_mem_nil
  have f1033 := k1006 _ _ f999 List.not_mem_nil
  have f1034 := k1006 _ _ f1000 List.not_mem_nil
  have f1035 := k1006 _ _ f1001 List.not_mem_nil
  refine pd_putF (ty := (.array .int)) X w f1009 hz_y rfl 41 (by decide) mT_1180 rfl rfl hmn rfl (by decide +kernel) rfl rfl (Nat.le_of_ble_eq_true rfl) d_p15m1_228 (fun H locs w => ?_)
  have w : pd_w G s H locs (pd_up h1005 y (20, .inr (10, [.ref q1, .ref q14, .ref q29, .int (nI 0), .int (nI 0), .int (nI 0), .ref q46, .ref q65, .ref q86, .ref q109, .ref q134, .ref q161, .int (nI 2), .ref q203, .ref q234, .ref q267, .ref q302, .ref q339, .ref q378, .ref q419, .int (nI 0), .ref q462, .ref q507, .ref q554, .ref q603, .ref q654, .ref q707, .ref q762, .ref q819, .int (nI 0), .ref q878, .ref q939, .int (nI 0), .int (nI 0), .int (nI 0), .int (nI 0), .long 0, .int (nI 0), .int (nI 0), .int (nI 0), .int (nI 0), .ref q1002, .null, .int (nI 0)]))) := w
  obtain ⟨h1036, u1039⟩ : ∃ z, z = pd_up h1005 y (20, .inr (10, [.ref q1, .ref q14, .ref q29, .int (nI 0), .int (nI 0), .int (nI 0), .ref q46, .ref q65, .ref q86, .ref q109, .ref q134, .ref q161, .int (nI 2), .ref q203, .ref q234, .ref q267, .ref q302, .ref q339, .ref q378, .ref q419, .int (nI 0), .ref q462, .ref q507, .ref q554, .ref q603, .ref q654, .ref q707, .ref q762, .ref q819, .int (nI 0), .ref q878, .ref q939, .int (nI 0), .int (nI 0), .int (nI 0), .int (nI 0), .long 0, .int (nI 0), .int (nI 0), .int (nI 0), .int (nI 0), .ref q1002, .null, .int (nI 0)])) := ⟨_, rfl⟩
  rw [← u1039] at w
  have k1037 : pd_kq y h1005 h1036 := by rw [u1039]; exact pd_up_kq
  have f1038 : h1036 y = some (20, .inr (10, [.ref q1, .ref q14, .ref q29, .int (nI 0), .int (nI 0), .int (nI 0), .ref q46, .ref q65, .ref q86, .ref q109, .ref q134, .ref q161, .int (nI 2), .ref q203, .ref q234, .ref q267, .ref q302, .ref q339, .ref q378, .ref q419, .int (nI 0), .ref q462, .ref q507, .ref q554, .ref q603, .ref q654, .ref q707, .ref q762, .ref q819, .int (nI 0), .ref q878, .ref q939, .int (nI 0), .int (nI 0), .int (nI 0), .int (nI 0), .long 0, .int (nI 0), .int (nI 0), .int (nI 0), .int (nI 0), .ref q1002, .null, .int (nI 0)])) := by rw [u1039]; exact pd_up_s _ _ _
  have f1040 := k1037 _ _ (pd_ne f1010 f1009 (by simp)) f1010
  have f1041 := k1037 _ _ (pd_ne f1011 f1009 (by simp)) f1011
  have f1042 := k1037 _ _ (pd_ne f1012 f1009 (by simp)) f1012
  have f1043 := k1037 _ _ (pd_ne f1013 f1009 (by simp)) f1013
  have f1044 := k1037 _ _ (pd_ne f1014 f1009 (by simp)) f1014
  have f1045 := k1037 _ _ (pd_ne f1015 f1009 (by simp)) f1015
  have f1046 := k1037 _ _ (pd_ne f1016 f1009 (by simp)) f1016
  have f1047 := k1037 _ _ (pd_ne f1017 f1009 (by simp)) f1017
  have f1048 := k1037 _ _ (pd_ne f1018 f1009 (by simp)) f1018
  have f1049 := k1037 _ _ (pd_ne f1019 f1009 (by simp)) f1019
  have f1050 := k1037 _ _ (pd_ne f1020 f1009 (by simp)) f1020
  have f1051 := k1037 _ _ (pd_ne f1021 f1009 (by simp)) f1021
  have f1052 := k1037 _ _ (pd_ne f1022 f1009 (by simp)) f1022
  have f1053 := k1037 _ _ (pd_ne f1023 f1009 (by simp)) f1023
  have f1054 := k1037 _ _ (pd_ne f1024 f1009 (by simp)) f1024
  have f1055 := k1037 _ _ (pd_ne f1025 f1009 (by simp)) f1025
  have f1056 := k1037 _ _ (pd_ne f1026 f1009 (by simp)) f1026
  have f1057 := k1037 _ _ (pd_ne f1027 f1009 (by simp)) f1027
  have f1058 := k1037 _ _ (pd_ne f1028 f1009 (by simp)) f1028
  have f1059 := k1037 _ _ (pd_ne f1029 f1009 (by simp)) f1029
  have f1060 := k1037 _ _ (pd_ne f1030 f1009 (by simp)) f1030
  have f1061 := k1037 _ _ (pd_ne f1031 f1009 (by simp)) f1031
  have f1062 := k1037 _ _ (pd_ne f1032 f1009 (by simp)) f1032
  have f1063 := k1037 _ _ (pd_ne f1033 f1009 (by simp)) f1033
  have f1064 := k1037 _ _ (pd_ne f1034 f1009 (by simp)) f1034
  have f1065 := k1037 _ _ (pd_ne f1035 f1009 (by simp)) f1035
  have f1066 := k1037 _ _ (pd_ne f1007 f1009 (by simp)) f1007
  refine lv_aload_n hx hb d_p15m1_231 rfl (lv_at hl 0 rfl) ?_
  refine lv_bipush (v := nI 32) hx hb d_p15m1_232 (by decide) ?_
  refine pd_newa (ty := .int) (x := (32, .inl (fun _ => 0))) 72 X w rfl mT_366 rfl rfl (by omega) (by decide) (fun _ h9 => h9) (by decide) (Nat.le_trans (Nat.add_le_add_left (by omega : 32 ≤ 32) _) (by decide)) d_p15m1_234 (fun q1067 H hq1068 hz1069 w => ?_)
  refine W.widen (k := 28) (n := 5780) (by decide) (by omega) ?_
  obtain ⟨h1070, u1073⟩ : ∃ z, z = pd_up h1036 q1067 (72, .inl (.int, 32, .inl (fun _ => 0))) := ⟨_, rfl⟩
  rw [← u1073] at w
  have k1071 : pd_kx [] h1036 h1070 := by rw [u1073]; exact pd_new_kx hq1068
  have f1072 : h1070 q1067 = some (72, .inl (.int, 32, .inl (fun _ => 0))) := by rw [u1073]; exact pd_up_s _ _ _
  have f1074 := k1071 _ _ f1038 List.not_mem_nil
  have f1075 := k1071 _ _ f1040 List.not_mem_nil
  have f1076 := k1071 _ _ f1041 List.not_mem_nil
  have f1077 := k1071 _ _ f1042 List.not_mem_nil
  have f1078 := k1071 _ _ f1043 List.not_mem_nil
  have f1079 := k1071 _ _ f1044 List.not_mem_nil
  have f1080 := k1071 _ _ f1045 List.not_mem_nil
  have f1081 := k1071 _ _ f1046 List.not_mem_nil
  have f1082 := k1071 _ _ f1047 List.not_mem_nil
  have f1083 := k1071 _ _ f1048 List.not_mem_nil
  have f1084 := k1071 _ _ f1049 List.not_mem_nil
  have f1085 := k1071 _ _ f1050 List.not_mem_nil
  have f1086 := k1071 _ _ f1051 List.not_mem_nil
  have f1087 := k1071 _ _ f1052 List.not_mem_nil
  have f1088 := k1071 _ _ f1053 List.not_mem_nil
  have f1089 := k1071 _ _ f1054 List.not_mem_nil
  have f1090 := k1071 _ _ f1055 List.not_mem_nil
  have f1091 := k1071 _ _ f1056 List.not_mem_nil
  have f1092 := k1071 _ _ f1057 List.not_mem_nil
  have f1093 := k1071 _ _ f1058 List.not_mem_nil
  have f1094 := k1071 _ _ f1059 List.not_mem_nil
  have f1095 := k1071 _ _ f1060 List.not_mem_nil
  have f1096 := k1071 _ _ f1061 List.not_mem_nil
  have f1097 := k1071 _ _ f1062 List.not_mem_nil
  have f1098 := k1071 _ _ f1063 List.not_mem_nil
  have f1099 := k1071 _ _ f1064 List.not_mem_nil
  have f1100 := k1071 _ _ f1065 List.not_mem_nil
  have f1101 := k1071 _ _ f1066 List.not_mem_nil
  refine pd_putF (ty := (.array .int)) X w f1074 hz_y rfl 42 (by decide) mT_1181 rfl rfl hmn rfl (by decide +kernel) rfl rfl (Nat.le_of_ble_eq_true rfl) d_p15m1_236 (fun H locs w => ?_)
  have w : pd_w G s H locs (pd_up h1070 y (20, .inr (10, [.ref q1, .ref q14, .ref q29, .int (nI 0), .int (nI 0), .int (nI 0), .ref q46, .ref q65, .ref q86, .ref q109, .ref q134, .ref q161, .int (nI 2), .ref q203, .ref q234, .ref q267, .ref q302, .ref q339, .ref q378, .ref q419, .int (nI 0), .ref q462, .ref q507, .ref q554, .ref q603, .ref q654, .ref q707, .ref q762, .ref q819, .int (nI 0), .ref q878, .ref q939, .int (nI 0), .int (nI 0), .int (nI 0), .int (nI 0), .long 0, .int (nI 0), .int (nI 0), .int (nI 0), .int (nI 0), .ref q1002, .ref q1067, .int (nI 0)]))) := w
  obtain ⟨h1102, u1105⟩ : ∃ z, z = pd_up h1070 y (20, .inr (10, [.ref q1, .ref q14, .ref q29, .int (nI 0), .int (nI 0), .int (nI 0), .ref q46, .ref q65, .ref q86, .ref q109, .ref q134, .ref q161, .int (nI 2), .ref q203, .ref q234, .ref q267, .ref q302, .ref q339, .ref q378, .ref q419, .int (nI 0), .ref q462, .ref q507, .ref q554, .ref q603, .ref q654, .ref q707, .ref q762, .ref q819, .int (nI 0), .ref q878, .ref q939, .int (nI 0), .int (nI 0), .int (nI 0), .int (nI 0), .long 0, .int (nI 0), .int (nI 0), .int (nI 0), .int (nI 0), .ref q1002, .ref q1067, .int (nI 0)])) := ⟨_, rfl⟩
  rw [← u1105] at w
  have k1103 : pd_kq y h1070 h1102 := by rw [u1105]; exact pd_up_kq
  have f1104 : h1102 y = some (20, .inr (10, [.ref q1, .ref q14, .ref q29, .int (nI 0), .int (nI 0), .int (nI 0), .ref q46, .ref q65, .ref q86, .ref q109, .ref q134, .ref q161, .int (nI 2), .ref q203, .ref q234, .ref q267, .ref q302, .ref q339, .ref q378, .ref q419, .int (nI 0), .ref q462, .ref q507, .ref q554, .ref q603, .ref q654, .ref q707, .ref q762, .ref q819, .int (nI 0), .ref q878, .ref q939, .int (nI 0), .int (nI 0), .int (nI 0), .int (nI 0), .long 0, .int (nI 0), .int (nI 0), .int (nI 0), .int (nI 0), .ref q1002, .ref q1067, .int (nI 0)])) := by rw [u1105]; exact pd_up_s _ _ _
  have f1106 := k1103 _ _ (pd_ne f1075 f1074 (by simp)) f1075
  have f1107 := k1103 _ _ (pd_ne f1076 f1074 (by simp)) f1076
  have f1108 := k1103 _ _ (pd_ne f1077 f1074 (by simp)) f1077
  have f1109 := k1103 _ _ (pd_ne f1078 f1074 (by simp)) f1078
  have f1110 := k1103 _ _ (pd_ne f1079 f1074 (by simp)) f1079
  have f1111 := k1103 _ _ (pd_ne f1080 f1074 (by simp)) f1080
  have f1112 := k1103 _ _ (pd_ne f1081 f1074 (by simp)) f1081
  have f1113 := k1103 _ _ (pd_ne f1082 f1074 (by simp)) f1082
  have f1114 := k1103 _ _ (pd_ne f1083 f1074 (by simp)) f1083
  have f1115 := k1103 _ _ (pd_ne f1084 f1074 (by simp)) f1084
  have f1116 := k1103 _ _ (pd_ne f1085 f1074 (by simp)) f1085
  have f1117 := k1103 _ _ (pd_ne f1086 f1074 (by simp)) f1086
  have f1118 := k1103 _ _ (pd_ne f1087 f1074 (by simp)) f1087
  have f1119 := k1103 _ _ (pd_ne f1088 f1074 (by simp)) f1088
  have f1120 := k1103 _ _ (pd_ne f1089 f1074 (by simp)) f1089
  have f1121 := k1103 _ _ (pd_ne f1090 f1074 (by simp)) f1090
  have f1122 := k1103 _ _ (pd_ne f1091 f1074 (by simp)) f1091
  have f1123 := k1103 _ _ (pd_ne f1092 f1074 (by simp)) f1092
  have f1124 := k1103 _ _ (pd_ne f1093 f1074 (by simp)) f1093
  have f1125 := k1103 _ _ (pd_ne f1094 f1074 (by simp)) f1094
  have f1126 := k1103 _ _ (pd_ne f1095 f1074 (by simp)) f1095
  have f1127 := k1103 _ _ (pd_ne f1096 f1074 (by simp)) f1096
  have f1128 := k1103 _ _ (pd_ne f1097 f1074 (by simp)) f1097
  have f1129 := k1103 _ _ (pd_ne f1098 f1074 (by simp)) f1098
  have f1130 := k1103 _ _ (pd_ne f1099 f1074 (by simp)) f1099
  have f1131 := k1103 _ _ (pd_ne f1100 f1074 (by simp)) f1100
  have f1132 := k1103 _ _ (pd_ne f1101 f1074 (by simp)) f1101
  have f1133 := k1103 _ _ (pd_ne f1072 f1074 (by simp)) f1072
  refine lv_aload_n hx hb d_p15m1_239 rfl (lv_at hl 0 rfl) ?_
  refine pd_get X w f1104 rfl 8 (by decide) mT_1147 rfl rfl d_p15m1_240 ?_
  refine lv_iconst (v := nI 0) hx hb d_p15m1_243 (by decide) ?_
  refine lv_iconst (v := -1) hx hb d_p15m1_244 (by decide) ?_
  refine pd_iast X w f1111 hz88 (by omega) (by omega) d_p15m1_245 (fun H locs w => ?_)
  have w : pd_w G s H locs (pd_up h1102 q86 (38, .inl (.int, 14, .inl (upd (fun _ => 0) 0 (-1))))) := w
  obtain ⟨h1134, u1137⟩ : ∃ z, z = pd_up h1102 q86 (38, .inl (.int, 14, .inl (upd (fun _ => 0) 0 (-1)))) := ⟨_, rfl⟩
  rw [← u1137] at w
  have k1135 : pd_kq q86 h1102 h1134 := by rw [u1137]; exact pd_up_kq
  have f1136 : h1134 q86 = some (38, .inl (.int, 14, .inl (upd (fun _ => 0) 0 (-1)))) := by rw [u1137]; exact pd_up_s _ _ _
  have f1138 := k1135 _ _ (pd_nn f79 hq87) f1104
  have f1139 := k1135 _ _ (pd_nn f81 hq87) f1106
  have f1140 := k1135 _ _ (pd_nn f82 hq87) f1107
  have f1141 := k1135 _ _ (pd_nn f83 hq87) f1108
  have f1142 := k1135 _ _ (pd_nn f84 hq87) f1109
  have f1143 := k1135 _ _ (pd_nn f85 hq87) f1110
  have f1144 := k1135 _ _ (pd_ne f1112 f1111 (by simp)) f1112
  have f1145 := k1135 _ _ (pd_ne f1113 f1111 (by simp)) f1113
  have f1146 := k1135 _ _ (pd_ne f1114 f1111 (by simp)) f1114
  have f1147 := k1135 _ _ (pd_ne f1115 f1111 (by simp)) f1115
  have f1148 := k1135 _ _ (pd_ne f1116 f1111 (by simp)) f1116
  have f1149 := k1135 _ _ (pd_ne f1117 f1111 (by simp)) f1117
  have f1150 := k1135 _ _ (pd_ne f1118 f1111 (by simp)) f1118
  have f1151 := k1135 _ _ (pd_ne f1119 f1111 (by simp)) f1119
  have f1152 := k1135 _ _ (pd_ne f1120 f1111 (by simp)) f1120
  have f1153 := k1135 _ _ (pd_ne f1121 f1111 (by simp)) f1121
  have f1154 := k1135 _ _ (pd_ne f1122 f1111 (by simp)) f1122
  have f1155 := k1135 _ _ (pd_ne f1123 f1111 (by simp)) f1123
  have f1156 := k1135 _ _ (pd_ne f1124 f1111 (by simp)) f1124
  have f1157 := k1135 _ _ (pd_ne f1125 f1111 (by simp)) f1125
  have f1158 := k1135 _ _ (pd_ne f1126 f1111 (by simp)) f1126
  have f1159 := k1135 _ _ (pd_ne f1127 f1111 (by simp)) f1127
  have f1160 := k1135 _ _ (pd_ne f1128 f1111 (by simp)) f1128
  have f1161 := k1135 _ _ (pd_ne f1129 f1111 (by simp)) f1129
  have f1162 := k1135 _ _ (pd_ne f1130 f1111 (by simp)) f1130
  have f1163 := k1135 _ _ (pd_ne f1131 f1111 (by simp)) f1131
  have f1164 := k1135 _ _ (pd_ne f1132 f1111 (by simp)) f1132
  have f1165 := k1135 _ _ (pd_ne f1133 f1111 (by simp)) f1133
  obtain ⟨ad, had⟩ : ∃ f : Nat → Nat, f = fun j => ([q1, q14, q29, 0, 0, 0, q46, q65, q86, q109, q134, q161, 0, q203, q234, q267, q302, q339, q378, q419, 0, q462, q507, q554, q603, q654, q707, q762, q819, 0, q878, q939, 0, 0, 0, 0, 0, 0, 0, 0, 0, q1002, q1067, 0] : List Nat).getD j 0 := ⟨_, rfl⟩
  obtain ⟨fv, hfv⟩ : ∃ f : Nat → Nat → Int32, f = pd_fu (fun _ _ => 0) 8 (upd (fun _ => 0) 0 (-1)) := ⟨_, rfl⟩
  obtain ⟨iv, hiv⟩ : ∃ f : Nat → Int32, f = pd_fu (fun _ => nI 0) 12 (nI 2) := ⟨_, rfl⟩
  have hMO : pd_MO G h1134 y ad fv iv 0 := by
    rw [had, hfv, hiv]
    refine ⟨f1138, hz_y, fun j hj => ?_⟩
    simp only [pd_mk, List.mem_cons, List.mem_nil_iff, or_false] at hj
    rcases hj with rfl | rfl | rfl | rfl | rfl | rfl | rfl | rfl | rfl | rfl | rfl | rfl | rfl | rfl | rfl | rfl | rfl | rfl | rfl | rfl | rfl | rfl | rfl | rfl | rfl | rfl | rfl | rfl
    · exact ⟨f1139, hz3⟩
    · exact ⟨f1140, hz16⟩
    · exact ⟨f1141, hz31⟩
    · exact ⟨f1142, hz48⟩
    · exact ⟨f1143, hz67⟩
    · exact ⟨f1136, hz88⟩
    · exact ⟨f1144, hz111⟩
    · exact ⟨f1145, hz136⟩
    · exact ⟨f1146, hz163⟩
    · exact ⟨f1147, hz205⟩
    · exact ⟨f1148, hz236⟩
    · exact ⟨f1149, hz269⟩
    · exact ⟨f1150, hz304⟩
    · exact ⟨f1151, hz341⟩
    · exact ⟨f1152, hz380⟩
    · exact ⟨f1153, hz421⟩
    · exact ⟨f1154, hz464⟩
    · exact ⟨f1155, hz509⟩
    · exact ⟨f1156, hz556⟩
    · exact ⟨f1157, hz605⟩
    · exact ⟨f1158, hz656⟩
    · exact ⟨f1159, hz709⟩
    · exact ⟨f1160, hz764⟩
    · exact ⟨f1161, hz821⟩
    · exact ⟨f1162, hz880⟩
    · exact ⟨f1163, hz941⟩
    · exact ⟨f1164, hz1004⟩
    · exact ⟨f1165, hz1069⟩
  have hy1166 : h1134 y = some (20, .inr (10, [.ref (ad 0), .ref (ad 1), .ref (ad 2), .int (iv 3), .int (iv 4), .int (iv 5), .ref (ad 6), .ref (ad 7), .ref (ad 8), .ref (ad 9), .ref (ad 10), .ref (ad 11), .int (iv 12), .ref (ad 13), .ref (ad 14), .ref (ad 15), .ref (ad 16), .ref (ad 17), .ref (ad 18), .ref (ad 19), .int (iv 20), .ref (ad 21), .ref (ad 22), .ref (ad 23), .ref (ad 24), .ref (ad 25), .ref (ad 26), .ref (ad 27), .ref (ad 28), .int (iv 29), .ref (ad 30), .ref (ad 31), .int (iv 32), .int (iv 33), .int (iv 34), .int (iv 35), .long 0, .int (iv 37), .int (iv 38), .int (iv 39), .int (iv 40), .ref (ad 41), .ref (ad 42), .int (iv 43)])) := hMO.1
  refine lv_aload_n hx hb d_p15m1_246 rfl (lv_at hl 0 rfl) ?_
  refine lv_iconst (v := nI 0) hx hb d_p15m1_247 (by decide) ?_
  refine lv_ldc2 (v := 127970252055119) hx hb X.2.2.2.2.1 (X.2.2.2.2.2.1 _ mT_1132) d_p15m1_248 ?_
  refine lv_bipush (v := nI 6) hx hb d_p15m1_251 (by decide) ?_
  refine pd_cVv (a := y) (As := [.int (nI 0), .long 127970252055119, .int (nI 6)]) (rest := []) X w hy1166 rfl (c_Mod_title l G h1134 (ad := ad) (fv := fv) (iv := iv) (tl := 0) hMO (by omega) (by omega)) ok_Mod_title ⟨mT_1135, sT_12⟩ mT_1133 ⟨by decide, by decide⟩ rfl hl.1 rfl (Nat.le_of_ble_eq_true rfl) d_p15m1_253 ⟨by decide, by decide⟩ (fun h1168 H locs hp1169 w => ?_)
  refine W.widen (k := 28) (n := 5780) (by decide) (by decide) ?_
  obtain ⟨k1170, fz1171, f1172, hf1173, hk1174⟩ := hp1169
  have hy1175 : h1168 y = some (20, .inr (10, [.ref (ad 0), .ref (ad 1), .ref (ad 2), .int (iv 3), .int (iv 4), .int (iv 5), .ref (ad 6), .ref (ad 7), .ref (ad 8), .ref (ad 9), .ref (ad 10), .ref (ad 11), .int (iv 12), .ref (ad 13), .ref (ad 14), .ref (ad 15), .ref (ad 16), .ref (ad 17), .ref (ad 18), .ref (ad 19), .int (iv 20), .ref (ad 21), .ref (ad 22), .ref (ad 23), .ref (ad 24), .ref (ad 25), .ref (ad 26), .ref (ad 27), .ref (ad 28), .int (iv 29), .ref (ad 30), .ref (ad 31), .int (iv 32), .int (iv 33), .int (iv 34), .int (iv 35), .long 0, .int (iv 37), .int (iv 38), .int (iv 39), .int (iv 40), .ref (ad 41), .ref (ad 42), .int (iv 43)])) := f1172.1
  refine lv_aload_n hx hb d_p15m1_256 rfl (lv_at hl 0 rfl) ?_
  refine lv_iconst (v := nI 1) hx hb d_p15m1_257 (by decide) ?_
  refine lv_ldc2 (v := 127978875155778) hx hb X.2.2.2.2.1 (X.2.2.2.2.2.1 _ mT_1138) d_p15m1_258 ?_
  refine lv_bipush (v := nI 6) hx hb d_p15m1_261 (by decide) ?_
  refine pd_cVv (a := y) (As := [.int (nI 1), .long 127978875155778, .int (nI 6)]) (rest := []) X w hy1175 rfl (c_Mod_title l G h1168 (ad := ad) (fv := pd_fu (pd_fu fv 6 fz1171) 7 (upd (fv 7) 0 (nI 6))) (iv := iv) (tl := 0) f1172 (by omega) (by omega)) ok_Mod_title ⟨mT_1135, sT_12⟩ mT_1133 ⟨by decide, by decide⟩ rfl hl.1 rfl (Nat.le_of_ble_eq_true rfl) d_p15m1_263 ⟨by decide, by decide⟩ (fun h1177 H locs hp1178 w => ?_)
  refine W.widen (k := 28) (n := 5780) (by decide) (by decide) ?_
  obtain ⟨k1179, fz1180, f1181, hf1182, hk1183⟩ := hp1178
  have hy1184 : h1177 y = some (20, .inr (10, [.ref (ad 0), .ref (ad 1), .ref (ad 2), .int (iv 3), .int (iv 4), .int (iv 5), .ref (ad 6), .ref (ad 7), .ref (ad 8), .ref (ad 9), .ref (ad 10), .ref (ad 11), .int (iv 12), .ref (ad 13), .ref (ad 14), .ref (ad 15), .ref (ad 16), .ref (ad 17), .ref (ad 18), .ref (ad 19), .int (iv 20), .ref (ad 21), .ref (ad 22), .ref (ad 23), .ref (ad 24), .ref (ad 25), .ref (ad 26), .ref (ad 27), .ref (ad 28), .int (iv 29), .ref (ad 30), .ref (ad 31), .int (iv 32), .int (iv 33), .int (iv 34), .int (iv 35), .long 0, .int (iv 37), .int (iv 38), .int (iv 39), .int (iv 40), .ref (ad 41), .ref (ad 42), .int (iv 43)])) := f1181.1
  have kt1185 : pd_kx [20, 36, 37] h h1177 := by
    intro ya c9 ys0 n9
    have ys1 := k5 ya c9 ys0 List.not_mem_nil
    have ys2 := k10 ya c9 (pd_ne ys1 f8 (fun z9 => n9 (by rw [z9]; simp))) ys1
    have ys3 := k18 ya c9 ys2 List.not_mem_nil
    have ys4 := k24 ya c9 (pd_ne ys3 f21 (fun z9 => n9 (by rw [z9]; simp))) ys3
    have ys5 := k33 ya c9 ys4 List.not_mem_nil
    have ys6 := k40 ya c9 (pd_ne ys5 f36 (fun z9 => n9 (by rw [z9]; simp))) ys5
    have ys7 := k50 ya c9 ys6 List.not_mem_nil
    have ys8 := k58 ya c9 (pd_ne ys7 f53 (fun z9 => n9 (by rw [z9]; simp))) ys7
    have ys9 := k69 ya c9 ys8 List.not_mem_nil
    have ys10 := k78 ya c9 (pd_ne ys9 f72 (fun z9 => n9 (by rw [z9]; simp))) ys9
    have ys11 := k90 ya c9 ys10 List.not_mem_nil
    have ys12 := k100 ya c9 (pd_ne ys11 f93 (fun z9 => n9 (by rw [z9]; simp))) ys11
    have ys13 := k113 ya c9 ys12 List.not_mem_nil
    have ys14 := k124 ya c9 (pd_ne ys13 f116 (fun z9 => n9 (by rw [z9]; simp))) ys13
    have ys15 := k138 ya c9 ys14 List.not_mem_nil
    have ys16 := k150 ya c9 (pd_ne ys15 f141 (fun z9 => n9 (by rw [z9]; simp))) ys15
    have ys17 := k165 ya c9 ys16 List.not_mem_nil
    have ys18 := k178 ya c9 (pd_ne ys17 f168 (fun z9 => n9 (by rw [z9]; simp))) ys17
    have ys19 := k191 ya c9 (pd_ne ys18 f179 (fun z9 => n9 (by rw [z9]; simp))) ys18
    have ys20 := k207 ya c9 ys19 List.not_mem_nil
    have ys21 := k221 ya c9 (pd_ne ys20 f210 (fun z9 => n9 (by rw [z9]; simp))) ys20
    have ys22 := k238 ya c9 ys21 List.not_mem_nil
    have ys23 := k253 ya c9 (pd_ne ys22 f241 (fun z9 => n9 (by rw [z9]; simp))) ys22
    have ys24 := k271 ya c9 ys23 List.not_mem_nil
    have ys25 := k287 ya c9 (pd_ne ys24 f274 (fun z9 => n9 (by rw [z9]; simp))) ys24
    have ys26 := k306 ya c9 ys25 List.not_mem_nil
    have ys27 := k323 ya c9 (pd_ne ys26 f309 (fun z9 => n9 (by rw [z9]; simp))) ys26
    have ys28 := k343 ya c9 ys27 List.not_mem_nil
    have ys29 := k361 ya c9 (pd_ne ys28 f346 (fun z9 => n9 (by rw [z9]; simp))) ys28
    have ys30 := k382 ya c9 ys29 List.not_mem_nil
    have ys31 := k401 ya c9 (pd_ne ys30 f385 (fun z9 => n9 (by rw [z9]; simp))) ys30
    have ys32 := k423 ya c9 ys31 List.not_mem_nil
    have ys33 := k443 ya c9 (pd_ne ys32 f426 (fun z9 => n9 (by rw [z9]; simp))) ys32
    have ys34 := k466 ya c9 ys33 List.not_mem_nil
    have ys35 := k487 ya c9 (pd_ne ys34 f469 (fun z9 => n9 (by rw [z9]; simp))) ys34
    have ys36 := k511 ya c9 ys35 List.not_mem_nil
    have ys37 := k533 ya c9 (pd_ne ys36 f514 (fun z9 => n9 (by rw [z9]; simp))) ys36
    have ys38 := k558 ya c9 ys37 List.not_mem_nil
    have ys39 := k581 ya c9 (pd_ne ys38 f561 (fun z9 => n9 (by rw [z9]; simp))) ys38
    have ys40 := k607 ya c9 ys39 List.not_mem_nil
    have ys41 := k631 ya c9 (pd_ne ys40 f610 (fun z9 => n9 (by rw [z9]; simp))) ys40
    have ys42 := k658 ya c9 ys41 List.not_mem_nil
    have ys43 := k683 ya c9 (pd_ne ys42 f661 (fun z9 => n9 (by rw [z9]; simp))) ys42
    have ys44 := k711 ya c9 ys43 List.not_mem_nil
    have ys45 := k737 ya c9 (pd_ne ys44 f714 (fun z9 => n9 (by rw [z9]; simp))) ys44
    have ys46 := k766 ya c9 ys45 List.not_mem_nil
    have ys47 := k793 ya c9 (pd_ne ys46 f769 (fun z9 => n9 (by rw [z9]; simp))) ys46
    have ys48 := k823 ya c9 ys47 List.not_mem_nil
    have ys49 := k851 ya c9 (pd_ne ys48 f826 (fun z9 => n9 (by rw [z9]; simp))) ys48
    have ys50 := k882 ya c9 ys49 List.not_mem_nil
    have ys51 := k911 ya c9 (pd_ne ys50 f885 (fun z9 => n9 (by rw [z9]; simp))) ys50
    have ys52 := k943 ya c9 ys51 List.not_mem_nil
    have ys53 := k973 ya c9 (pd_ne ys52 f946 (fun z9 => n9 (by rw [z9]; simp))) ys52
    have ys54 := k1006 ya c9 ys53 List.not_mem_nil
    have ys55 := k1037 ya c9 (pd_ne ys54 f1009 (fun z9 => n9 (by rw [z9]; simp))) ys54
    have ys56 := k1071 ya c9 ys55 List.not_mem_nil
    have ys57 := k1103 ya c9 (pd_ne ys56 f1074 (fun z9 => n9 (by rw [z9]; simp))) ys56
    have ys58 := k1135 ya c9 (pd_nn ys10 hq87) ys57
    have ys59 := k1170 ya c9 ys58 (fun z9 => n9 ((show ∀ t ∈ [36, 37], t ∈ [20, 36, 37] by simp) _ z9))
    have ys60 := k1179 ya c9 ys59 (fun z9 => n9 ((show ∀ t ∈ [36, 37], t ∈ [20, 36, 37] by simp) _ z9))
    exact ys60
  exact pd_vret X w ⟨(pd_kx.mono (us := pd_wk) (kt1185) (by decide)), ad, _, iv, f1181, gm_Z0 hfv hiv hf1173 hf1182 hk1183⟩ (by decide) (by decide) d_p15m1_266
