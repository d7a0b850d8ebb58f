theorem pd_MO.ext {G : pd_G} {h : pd_H} {y : Nat} {ad : Nat → Nat} {fv fv2 : Nat → Nat → Int32} {iv iv2 : Nat → Int32} {tl : Int64} (q : pd_MO G h y ad fv iv tl) (h1 : ∀ j ∈ pd_mk, fv2 j = fv j) (h2 : pd_mv ad iv2 tl = pd_mv ad iv tl) : pd_MO G h y ad fv2 iv2 tl := by
  refine ⟨by rw [h2]; exact q.1, q.2.1, fun j hj => ?_⟩
  rw [h1 j hj]
  exact q.2.2 j hj
def gm_sp (cs : List Nat) : Nat → Nat → Nat → Nat → (Nat → Nat) → (Nat → Nat) → Nat × (Nat → Nat) × (Nat → Nat)
  | 0, _, w, _, a, b => (w, a, b)
  | n + 1, k, w, x, a, b => if k < cs.length ∧ ¬ cs.getD k 0 = 32 then gm_sp cs n (k + 1) w x a b else if k = x then (0, a, b) else gm_sp cs n (k + 1) (w + 1) (k + 1) (pd_fu a w x) (pd_fu b w k)
def gm_split (cs : List Nat) : Nat × (Nat → Nat) × (Nat → Nat) := gm_sp cs (cs.length + 1) 0 0 0 (fun _ => 0) (fun _ => 0)
theorem gm_sp_c {cs : List Nat} {n k w x : Nat} {a b : Nat → Nat} (h : k < cs.length ∧ ¬ cs.getD k 0 = 32) (hn : 0 < n) : gm_sp cs n k w x a b = gm_sp cs (n - 1) (k + 1) w x a b := by
  obtain ⟨n, rfl⟩ : ∃ z, n = z + 1 := ⟨n - 1, by omega⟩
  rw [gm_sp, if_pos h]
  rfl
theorem gm_sp_0 {cs : List Nat} {n k w x : Nat} {a b : Nat → Nat} (h : ¬ (k < cs.length ∧ ¬ cs.getD k 0 = 32)) (hk : k = x) (hn : 0 < n) : gm_sp cs n k w x a b = (0, a, b) := by
  obtain ⟨n, rfl⟩ : ∃ z, n = z + 1 := ⟨n - 1, by omega⟩
  rw [gm_sp, if_neg h, if_pos hk]
theorem gm_sp_w {cs : List Nat} {n k w x : Nat} {a b : Nat → Nat} (h : ¬ (k < cs.length ∧ ¬ cs.getD k 0 = 32)) (hk : ¬ k = x) (hn : 0 < n) : gm_sp cs n k w x a b = gm_sp cs (n - 1) (k + 1) (w + 1) (k + 1) (pd_fu a w x) (pd_fu b w k) := by
  obtain ⟨n, rfl⟩ : ∃ z, n = z + 1 := ⟨n - 1, by omega⟩
  rw [gm_sp, if_neg h, if_neg hk]
  rfl
theorem d_p15m6_0 : decode prog_15_method_6_code 0 = .ok (.aload_n 0, 1) := by decide +kernel
theorem d_p15m6_1 : decode prog_15_method_6_code 1 = .ok (.iconst 0, 1) := by decide +kernel
theorem d_p15m6_2 : decode prog_15_method_6_code 2 = .ok (.putfield 116, 3) := by decide +kernel
theorem d_p15m6_5 : decode prog_15_method_6_code 5 = .ok (.iconst 0, 1) := by decide +kernel
theorem d_p15m6_6 : decode prog_15_method_6_code 6 = .ok (.istore_n 1, 1) := by decide +kernel
theorem d_p15m6_7 : decode prog_15_method_6_code 7 = .ok (.iconst 0, 1) := by decide +kernel
theorem d_p15m6_8 : decode prog_15_method_6_code 8 = .ok (.istore_n 2, 1) := by decide +kernel
theorem d_p15m6_9 : decode prog_15_method_6_code 9 = .ok (.iload_n 2, 1) := by decide +kernel
theorem d_p15m6_10 : decode prog_15_method_6_code 10 = .ok (.aload_n 0, 1) := by decide +kernel
theorem d_p15m6_11 : decode prog_15_method_6_code 11 = .ok (.getfield 113, 3) := by decide +kernel
theorem d_p15m6_14 : decode prog_15_method_6_code 14 = .ok (.if_icmp .gt 72, 3) := by decide +kernel
theorem d_p15m6_17 : decode prog_15_method_6_code 17 = .ok (.iload_n 2, 1) := by decide +kernel
theorem d_p15m6_18 : decode prog_15_method_6_code 18 = .ok (.aload_n 0, 1) := by decide +kernel
theorem d_p15m6_19 : decode prog_15_method_6_code 19 = .ok (.getfield 113, 3) := by decide +kernel
theorem d_p15m6_22 : decode prog_15_method_6_code 22 = .ok (.if_icmp .ge 17, 3) := by decide +kernel
theorem d_p15m6_25 : decode prog_15_method_6_code 25 = .ok (.aload_n 0, 1) := by decide +kernel
theorem d_p15m6_26 : decode prog_15_method_6_code 26 = .ok (.getfield 7, 3) := by decide +kernel
theorem d_p15m6_29 : decode prog_15_method_6_code 29 = .ok (.iload_n 2, 1) := by decide +kernel
theorem d_p15m6_30 : decode prog_15_method_6_code 30 = .ok (.iaload, 1) := by decide +kernel
theorem d_p15m6_31 : decode prog_15_method_6_code 31 = .ok (.bipush 32, 2) := by decide +kernel
theorem d_p15m6_33 : decode prog_15_method_6_code 33 = .ok (.if_icmp .eq 6, 3) := by decide +kernel
theorem d_p15m6_36 : decode prog_15_method_6_code 36 = .ok (.goto 44, 3) := by decide +kernel
theorem d_p15m6_39 : decode prog_15_method_6_code 39 = .ok (.iload_n 2, 1) := by decide +kernel
theorem d_p15m6_40 : decode prog_15_method_6_code 40 = .ok (.iload_n 1, 1) := by decide +kernel
theorem d_p15m6_41 : decode prog_15_method_6_code 41 = .ok (.if_icmp .ne 5, 3) := by decide +kernel
theorem d_p15m6_44 : decode prog_15_method_6_code 44 = .ok (.iconst 0, 1) := by decide +kernel
theorem d_p15m6_45 : decode prog_15_method_6_code 45 = .ok (.ireturn, 1) := by decide +kernel
theorem d_p15m6_46 : decode prog_15_method_6_code 46 = .ok (.aload_n 0, 1) := by decide +kernel
theorem d_p15m6_47 : decode prog_15_method_6_code 47 = .ok (.getfield 13, 3) := by decide +kernel
theorem d_p15m6_50 : decode prog_15_method_6_code 50 = .ok (.aload_n 0, 1) := by decide +kernel
theorem d_p15m6_51 : decode prog_15_method_6_code 51 = .ok (.getfield 116, 3) := by decide +kernel
theorem d_p15m6_54 : decode prog_15_method_6_code 54 = .ok (.iload_n 1, 1) := by decide +kernel
theorem d_p15m6_55 : decode prog_15_method_6_code 55 = .ok (.iastore, 1) := by decide +kernel
theorem d_p15m6_56 : decode prog_15_method_6_code 56 = .ok (.aload_n 0, 1) := by decide +kernel
theorem d_p15m6_57 : decode prog_15_method_6_code 57 = .ok (.getfield 16, 3) := by decide +kernel
theorem d_p15m6_60 : decode prog_15_method_6_code 60 = .ok (.aload_n 0, 1) := by decide +kernel
theorem d_p15m6_61 : decode prog_15_method_6_code 61 = .ok (.getfield 116, 3) := by decide +kernel
theorem d_p15m6_64 : decode prog_15_method_6_code 64 = .ok (.iload_n 2, 1) := by decide +kernel
theorem d_p15m6_65 : decode prog_15_method_6_code 65 = .ok (.iastore, 1) := by decide +kernel
theorem d_p15m6_66 : decode prog_15_method_6_code 66 = .ok (.aload_n 0, 1) := by decide +kernel
theorem d_p15m6_67 : decode prog_15_method_6_code 67 = .ok (.dup, 1) := by decide +kernel
theorem d_p15m6_68 : decode prog_15_method_6_code 68 = .ok (.getfield 116, 3) := by decide +kernel
theorem d_p15m6_71 : decode prog_15_method_6_code 71 = .ok (.iconst 1, 1) := by decide +kernel
theorem d_p15m6_72 : decode prog_15_method_6_code 72 = .ok (.iadd, 1) := by decide +kernel
theorem d_p15m6_73 : decode prog_15_method_6_code 73 = .ok (.putfield 116, 3) := by decide +kernel
theorem d_p15m6_76 : decode prog_15_method_6_code 76 = .ok (.iload_n 2, 1) := by decide +kernel
theorem d_p15m6_77 : decode prog_15_method_6_code 77 = .ok (.iconst 1, 1) := by decide +kernel
theorem d_p15m6_78 : decode prog_15_method_6_code 78 = .ok (.iadd, 1) := by decide +kernel
theorem d_p15m6_79 : decode prog_15_method_6_code 79 = .ok (.istore_n 1, 1) := by decide +kernel
theorem d_p15m6_80 : decode prog_15_method_6_code 80 = .ok (.iinc 2 1, 3) := by decide +kernel
theorem d_p15m6_83 : decode prog_15_method_6_code 83 = .ok (.goto (-74), 3) := by decide +kernel
theorem d_p15m6_86 : decode prog_15_method_6_code 86 = .ok (.aload_n 0, 1) := by decide +kernel
theorem d_p15m6_87 : decode prog_15_method_6_code 87 = .ok (.getfield 116, 3) := by decide +kernel
theorem d_p15m6_90 : decode prog_15_method_6_code 90 = .ok (.ireturn, 1) := by decide +kernel
abbrev y_Mod_split : MethodName := ⟨"PolicyDeskModel", "split", "()I"⟩
theorem ok_Mod_split : pd_ok y_Mod_split prog_15_method_6_code 3 (some .int) 0 := ⟨mT_1291, mT_21, by decide, by decide +kernel⟩
abbrev rm_Mod_split : Room := { frames := 0, cells := 0, slots := 0, locals := 0 }
set_option maxHeartbeats 4000000 in
set_option maxRecDepth 100000 in
theorem lp_Mod_split_9 (l : Launch) (G : pd_G) (h : pd_H) {y : Nat} {ad : Nat → Nat} {fv : Nat → Nat → Int32} {iv : Nat → Int32} {tl : Int64} {cs : List Nat} (hMO : pd_MO G h y ad fv iv tl) (hL : gm_L fv iv cs) {p : Program} {e : Env} {s : State} {m : MethodId} {below : List Frame} {meth : Method} {c : Code} (X : pd_B p s m [.ref y].toArray meth c G y_Mod_split.cls prog_15_method_6_code 3 (some .int)) (hmn : meth.name = y_Mod_split.name) :
    ∀ (kk9 : Nat) (i : Nat) (x9 : Nat) (w9 : Nat) (sA : Nat → Nat) (eA : Nat → Nat) (f1 : Nat → Int32) (f2 : Nat → Int32) (hh : pd_H), (2 * w9 ≤ x9 ∧ x9 ≤ i ∧ i ≤ cs.length + 1) → (∀ t, t < w9 → f1 t = nI (sA t) ∧ f2 t = nI (eA t) ∧ sA t < eA t ∧ eA t ≤ cs.length) → (pd_kx [20, 31, 32] h hh) → (pd_MO G hh y ad (pd_fu (pd_fu fv 1 f1) 2 f2) (pd_fu iv 4 (nI w9)) tl) → (gm_sp cs (cs.length + 1 - i) i w9 x9 sA eA = gm_split cs) → cs.length + 2 - i < kk9 → ∀ (H : Heap) (locs : List Loc), pd_w G s H locs hh → ∀ ls : Array Slot, lv_has ls 3 [(2, .int (nI i)), (1, .int (nI x9)), (0, .ref y)] → W p l e rm_Mod_split s m [.ref y].toArray below meth c H locs 0 0 (MQ below (pd_Q G pd_vn (fun r h1 => pd_kx [20, 31, 32] h h1 ∧ ∃ f1 f2 v4, pd_MO G h1 y ad (pd_fu (pd_fu fv 1 f1) 2 f2) (pd_fu iv 4 v4) tl ∧ r = (gm_split cs).1 ∧ (¬ (gm_split cs).1 = 0 → gm_W (pd_fu (pd_fu fv 1 f1) 2 f2) cs (gm_split cs).1 (gm_split cs).2.1 (gm_split cs).2.2))) [.ref y].toArray s rm_Mod_split.cells rm_Mod_split.slots (fun q => G.2.1 ≤ q)) (F0 m 9 ls []) := by
  have hx := X.1
  have hb := X.2.1
  have hz_y := hMO.2.1
  have hy0 : h y = some (20, .inr (10, [.ref (ad 0), .ref (ad 1), .ref (ad 2), .int (iv 3), .int (iv 4), .int (iv 5), .ref (ad 6), .ref (ad 7), .ref (ad 8), .ref (ad 9), .ref (ad 10), .ref (ad 11), .int (iv 12), .ref (ad 13), .ref (ad 14), .ref (ad 15), .ref (ad 16), .ref (ad 17), .ref (ad 18), .ref (ad 19), .int (iv 20), .ref (ad 21), .ref (ad 22), .ref (ad 23), .ref (ad 24), .ref (ad 25), .ref (ad 26), .ref (ad 27), .ref (ad 28), .int (iv 29), .ref (ad 30), .ref (ad 31), .int (iv 32), .int (iv 33), .int (iv 34), .int (iv 35), .long tl, .int (iv 37), .int (iv 38), .int (iv 39), .int (iv 40), .ref (ad 41), .ref (ad 42), .int (iv 43)])) := hMO.1
  have ha0 : h (ad 0) = some (30, .inl (.int, 60, .inl (fv 0))) := (hMO.2.2 0 (by decide)).1
  have ha1 : h (ad 1) = some (31, .inl (.int, 40, .inl (fv 1))) := (hMO.2.2 1 (by decide)).1
  have ha2 : h (ad 2) = some (32, .inl (.int, 40, .inl (fv 2))) := (hMO.2.2 2 (by decide)).1
  obtain ⟨hiv3, hln, hl60, hlc⟩ := id hL
  intro kk9
  induction kk9 with
  | zero => intros; omega
  | succ kk9 ih =>
    intro i x9 w9 sA eA f1 f2 hh hb9 hwd hk2 hMO2 hv hmu H locs w ls hl
    have hz_y := hMO2.2.1
    have hy2 : hh y = some (20, .inr (10, [.ref (ad 0), .ref (ad 1), .ref (ad 2), .int (iv 3), .int (nI w9), .int (iv 5), .ref (ad 6), .ref (ad 7), .ref (ad 8), .ref (ad 9), .ref (ad 10), .ref (ad 11), .int (iv 12), .ref (ad 13), .ref (ad 14), .ref (ad 15), .ref (ad 16), .ref (ad 17), .ref (ad 18), .ref (ad 19), .int (iv 20), .ref (ad 21), .ref (ad 22), .ref (ad 23), .ref (ad 24), .ref (ad 25), .ref (ad 26), .ref (ad 27), .ref (ad 28), .int (iv 29), .ref (ad 30), .ref (ad 31), .int (iv 32), .int (iv 33), .int (iv 34), .int (iv 35), .long tl, .int (iv 37), .int (iv 38), .int (iv 39), .int (iv 40), .ref (ad 41), .ref (ad 42), .int (iv 43)])) := hMO2.1
    have ha0 : hh (ad 0) = some (30, .inl (.int, 60, .inl (fv 0))) := (hMO2.2.2 0 (by decide)).1
    have ha1 : hh (ad 1) = some (31, .inl (.int, 40, .inl f1)) := (hMO2.2.2 1 (by decide)).1
    have ha2 : hh (ad 2) = some (32, .inl (.int, 40, .inl f2)) := (hMO2.2.2 2 (by decide)).1
    refine lv_iload_n hx hb d_p15m6_9 rfl (lv_at hl 0 rfl) ?_
    refine lv_aload_n hx hb d_p15m6_10 rfl (lv_at hl 2 rfl) ?_
    refine pd_get X w hy2 rfl 3 (by decide) mT_1142 rfl rfl d_p15m6_11 ?_
    refine pd_top (v' := .int (nI cs.length)) (congrArg Value.int hiv3) ?_
    refine pd_jgt (tgt := 86) hx hb d_p15m6_14 (by decide) (by omega) (by omega) (fun q1 => ?_) (fun q1 => ?_)
    · -- taken: 86
      refine lv_aload_n hx hb d_p15m6_86 rfl (lv_at hl 2 rfl) ?_
      refine pd_get X w hy2 rfl 4 (by decide) mT_1143 rfl rfl d_p15m6_87 ?_
      exact pd_nret (v := w9) X w ⟨hk2, f1, f2, _, hMO2, by rw [← hv, show cs.length + 1 - i = 0 by omega]; rfl, fun _ => by rw [← hv, show cs.length + 1 - i = 0 by omega]; exact ⟨by show w9 ≤ 31; omega, fun t ht => hwd t ht⟩⟩ (by decide) (by decide) d_p15m6_90
    · -- not taken: 17
      refine lv_iload_n hx hb d_p15m6_17 rfl (lv_at hl 0 rfl) ?_
      refine lv_aload_n hx hb d_p15m6_18 rfl (lv_at hl 2 rfl) ?_
      refine pd_get X w hy2 rfl 3 (by decide) mT_1142 rfl rfl d_p15m6_19 ?_
      refine pd_top (v' := .int (nI cs.length)) (congrArg Value.int hiv3) ?_
      refine pd_jge (tgt := 39) hx hb d_p15m6_22 (by decide) (by omega) (by omega) (fun q2 => ?_) (fun q2 => ?_)
      · -- taken: 39
        refine lv_iload_n hx hb d_p15m6_39 rfl (lv_at hl 0 rfl) ?_
        refine lv_iload_n hx hb d_p15m6_40 rfl (lv_at hl 1 rfl) ?_
        refine pd_jne (tgt := 46) hx hb d_p15m6_41 (by decide) (by omega) (by omega) (fun q3 => ?_) (fun q3 => ?_)
        · -- taken: 46
          refine lv_aload_n hx hb d_p15m6_46 rfl (lv_at hl 2 rfl) ?_
          refine pd_get X w hy2 rfl 1 (by decide) mT_1140 rfl rfl d_p15m6_47 ?_
          refine lv_aload_n hx hb d_p15m6_50 rfl (lv_at hl 2 rfl) ?_
          refine pd_get X w hy2 rfl 4 (by decide) mT_1143 rfl rfl d_p15m6_51 ?_
          refine lv_iload_n hx hb d_p15m6_54 rfl (lv_at hl 1 rfl) ?_
          refine pd_iast X w ha1 (hMO.2.2 1 (by decide)).2 (by omega) (by omega) d_p15m6_55 (fun H locs w => ?_)
          have w : pd_w G s H locs (pd_up hh (ad 1) (31, .inl (.int, 40, .inl (upd f1 w9 (nI x9))))) := w
          obtain ⟨h4, u7⟩ : ∃ z, z = pd_up hh (ad 1) (31, .inl (.int, 40, .inl (upd f1 w9 (nI x9)))) := ⟨_, rfl⟩
          rw [← u7] at w
          have k5 : pd_kq (ad 1) hh h4 := by rw [u7]; exact pd_up_kq
          have f6 : h4 (ad 1) = some (31, .inl (.int, 40, .inl (upd f1 w9 (nI x9)))) := by rw [u7]; exact pd_up_s _ _ _
          have f8 := k5 _ _ (pd_ne hy2 ha1 (by simp)) hy2
          have f9 := k5 _ _ (pd_ne ha0 ha1 (by simp)) ha0
          have f10 := k5 _ _ (pd_ne ha2 ha1 (by simp)) ha2
          refine lv_aload_n hx hb d_p15m6_56 rfl (lv_at hl 2 rfl) ?_
          refine pd_get X w f8 rfl 2 (by decide) mT_1141 rfl rfl d_p15m6_57 ?_
          refine lv_aload_n hx hb d_p15m6_60 rfl (lv_at hl 2 rfl) ?_
          refine pd_get X w f8 rfl 4 (by decide) mT_1143 rfl rfl d_p15m6_61 ?_
          refine lv_iload_n hx hb d_p15m6_64 rfl (lv_at hl 0 rfl) ?_
          refine pd_iast X w f10 (hMO.2.2 2 (by decide)).2 (by omega) (by omega) d_p15m6_65 (fun H locs w => ?_)
          have w : pd_w G s H locs (pd_up h4 (ad 2) (32, .inl (.int, 40, .inl (upd f2 w9 (nI i))))) := w
          obtain ⟨h11, u14⟩ : ∃ z, z = pd_up h4 (ad 2) (32, .inl (.int, 40, .inl (upd f2 w9 (nI i)))) := ⟨_, rfl⟩
          rw [← u14] at w
          have k12 : pd_kq (ad 2) h4 h11 := by rw [u14]; exact pd_up_kq
          have f13 : h11 (ad 2) = some (32, .inl (.int, 40, .inl (upd f2 w9 (nI i)))) := by rw [u14]; exact pd_up_s _ _ _
          have f15 := k12 _ _ (pd_ne f8 f10 (by simp)) f8
          have f16 := k12 _ _ (pd_ne f9 f10 (by simp)) f9
          have f17 := k12 _ _ (pd_ne f6 f10 (by simp)) f6
          refine lv_aload_n hx hb d_p15m6_66 rfl (lv_at hl 2 rfl) ?_
          refine lv_dup hx hb d_p15m6_67 rfl ?_
          refine pd_get X w f15 rfl 4 (by decide) mT_1143 rfl rfl d_p15m6_68 ?_
          refine lv_iconst (v := nI 1) hx hb d_p15m6_71 (by decide) ?_
          refine pd_iadd hx hb d_p15m6_72 ?_
          refine pd_put (ty := .int) X w f15 hz_y rfl 4 (by decide) mT_1143 rfl rfl (by decide +kernel) rfl rfl (Nat.le_of_ble_eq_true rfl) d_p15m6_73 (fun H locs w => ?_)
          have w : pd_w G s H locs (pd_up h11 y (20, .inr (10, [.ref (ad 0), .ref (ad 1), .ref (ad 2), .int (iv 3), .int (nI (w9 + 1)), .int (iv 5), .ref (ad 6), .ref (ad 7), .ref (ad 8), .ref (ad 9), .ref (ad 10), .ref (ad 11), .int (iv 12), .ref (ad 13), .ref (ad 14), .ref (ad 15), .ref (ad 16), .ref (ad 17), .ref (ad 18), .ref (ad 19), .int (iv 20), .ref (ad 21), .ref (ad 22), .ref (ad 23), .ref (ad 24), .ref (ad 25), .ref (ad 26), .ref (ad 27), .ref (ad 28), .int (iv 29), .ref (ad 30), .ref (ad 31), .int (iv 32), .int (iv 33), .int (iv 34), .int (iv 35), .long tl, .int (iv 37), .int (iv 38), .int (iv 39), .int (iv 40), .ref (ad 41), .ref (ad 42), .int (iv 43)]))) := w
          obtain ⟨h18, u21⟩ : ∃ z, z = pd_up h11 y (20, .inr (10, [.ref (ad 0), .ref (ad 1), .ref (ad 2), .int (iv 3), .int (nI (w9 + 1)), .int (iv 5), .ref (ad 6), .ref (ad 7), .ref (ad 8), .ref (ad 9), .ref (ad 10), .ref (ad 11), .int (iv 12), .ref (ad 13), .ref (ad 14), .ref (ad 15), .ref (ad 16), .ref (ad 17), .ref (ad 18), .ref (ad 19), .int (iv 20), .ref (ad 21), .ref (ad 22), .ref (ad 23), .ref (ad 24), .ref (ad 25), .ref (ad 26), .ref (ad 27), .ref (ad 28), .int (iv 29), .ref (ad 30), .ref (ad 31), .int (iv 32), .int (iv 33), .int (iv 34), .int (iv 35), .long tl, .int (iv 37), .int (iv 38), .int (iv 39), .int (iv 40), .ref (ad 41), .ref (ad 42), .int (iv 43)])) := ⟨_, rfl⟩
          rw [← u21] at w
          have k19 : pd_kq y h11 h18 := by rw [u21]; exact pd_up_kq
          have f20 : h18 y = some (20, .inr (10, [.ref (ad 0), .ref (ad 1), .ref (ad 2), .int (iv 3), .int (nI (w9 + 1)), .int (iv 5), .ref (ad 6), .ref (ad 7), .ref (ad 8), .ref (ad 9), .ref (ad 10), .ref (ad 11), .int (iv 12), .ref (ad 13), .ref (ad 14), .ref (ad 15), .ref (ad 16), .ref (ad 17), .ref (ad 18), .ref (ad 19), .int (iv 20), .ref (ad 21), .ref (ad 22), .ref (ad 23), .ref (ad 24), .ref (ad 25), .ref (ad 26), .ref (ad 27), .ref (ad 28), .int (iv 29), .ref (ad 30), .ref (ad 31), .int (iv 32), .int (iv 33), .int (iv 34), .int (iv 35), .long tl, .int (iv 37), .int (iv 38), .int (iv 39), .int (iv 40), .ref (ad 41), .ref (ad 42), .int (iv 43)])) := by rw [u21]; exact pd_up_s _ _ _
          have f22 := k19 _ _ (pd_ne f16 f15 (by simp)) f16
          have f23 := k19 _ _ (pd_ne f17 f15 (by simp)) f17
          have f24 := k19 _ _ (pd_ne f13 f15 (by simp)) f13
          refine lv_iload_n hx hb d_p15m6_76 rfl (lv_at hl 0 rfl) ?_
          refine lv_iconst (v := nI 1) hx hb d_p15m6_77 (by decide) ?_
          refine pd_iadd hx hb d_p15m6_78 ?_
          refine lv_istore_n (lv' := [(1, .int (nI (i + 1))), (2, .int (nI i)), (0, .ref y)]) hx hb d_p15m6_79 rfl hl (by decide) rfl (fun ls hl => ?_)
          refine pd_iinc (k := 1) (d := 1) (lv' := [(2, .int (nI (i + 1))), (1, .int (nI (i + 1))), (0, .ref y)]) hx hb d_p15m6_80 (by decide) hl rfl (by decide) rfl (fun ls hl => ?_)
          refine lv_goto (tgt := 9) hx hb d_p15m6_83 (by decide) ?_
          exact ih (i + 1) (i + 1) (w9 + 1) (pd_fu sA w9 x9) (pd_fu eA w9 i) (upd f1 w9 (nI x9)) (upd f2 w9 (nI i)) h18 (by omega) (fun t ht => by by_cases e9 : t = w9; subst e9; rw [pk_us, pk_us, pd_fu_s, pd_fu_s]; exact ⟨rfl, rfl, by omega, by omega⟩; rw [pk_un e9, pk_un e9, pd_fu_n e9, pd_fu_n e9]; exact hwd t (by omega)) (hk2.tr (pd_kx.mono (us := [20, 31, 32]) (pd_kx.tr (pd_kx.mono (us := [31, 32, 20]) (pd_kx.tr (pd_kx.mono (us := [31, 32]) (pd_kq.kx (k5) ha1) (by simp)) (pd_kx.mono (us := [31, 32]) (pd_kq.kx (k12) f10) (by simp))) (by simp)) (pd_kx.mono (us := [31, 32, 20]) (pd_kq.kx (k19) f15) (by simp))) (by simp))) ((pd_MO.ext (fv2 := pd_fu (pd_fu fv 1 (upd f1 w9 (nI x9))) 2 (upd f2 w9 (nI i))) (iv2 := pd_fu iv 4 (nI (w9 + 1))) (pd_MO.of (fv2 := pd_fu (pd_fu (pd_fu (pd_fu fv 1 f1) 2 f2) 1 (upd f1 w9 (nI x9))) 2 (upd f2 w9 (nI i))) (iv2 := pd_fu (pd_fu iv 4 (nI w9)) 4 (nI (w9 + 1))) (tl2 := tl) (ts := [31, 32, 20]) hMO2 (pd_kx.tr (pd_kx.mono (us := [31, 32, 20]) (pd_kx.tr (pd_kx.mono (us := [31, 32]) (pd_kq.kx (k5) ha1) (by simp)) (pd_kx.mono (us := [31, 32]) (pd_kq.kx (k12) f10) (by simp))) (by simp)) (pd_kx.mono (us := [31, 32, 20]) (pd_kq.kx (k19) f15) (by simp))) f20 (fun j hj => if e1 : j = 1 then by subst e1; exact Or.inl f23 else if e2 : j = 2 then by subst e2; exact Or.inl f24 else Or.inr ⟨fun z => by first | (simp at z; done) | (simp at z; omega), by rw [pd_fu_n e2, pd_fu_n e1]⟩)) (fun j9 hj9 => by by_cases e9 : j9 = 2; subst e9; rfl; by_cases e8 : j9 = 1; subst e8; rfl; simp only [pd_fu, if_neg e9, if_neg e8]) rfl)) (by have z9 := gm_sp_w (cs := cs) (n := cs.length + 1 - i) (k := i) (w := w9) (x := x9) (a := sA) (b := eA) (by omega) (by omega) (by omega); rw [show cs.length + 1 - (i + 1) = cs.length + 1 - i - 1 by omega, ← z9]; exact hv) (by omega) _ _ w ls (lv_sub hl [0, 1, 2] rfl)
        · -- not taken: 44
          refine lv_iconst (v := nI 0) hx hb d_p15m6_44 (by decide) ?_
          exact pd_nret (v := 0) X w ⟨hk2, f1, f2, _, hMO2, by rw [← hv, gm_sp_0 (by omega) (by omega) (by omega)], fun z9 => absurd (by rw [← hv, gm_sp_0 (by omega) (by omega) (by omega)]) z9⟩ (by decide) (by decide) d_p15m6_45
      · -- not taken: 25
        refine lv_aload_n hx hb d_p15m6_25 rfl (lv_at hl 2 rfl) ?_
        refine pd_get X w hy2 rfl 0 (by decide) mT_1139 rfl rfl d_p15m6_26 ?_
        refine lv_iload_n hx hb d_p15m6_29 rfl (lv_at hl 0 rfl) ?_
        refine pd_iald X w ha0 (by omega) (by omega) d_p15m6_30 ?_
        refine pd_top (v' := .int (nI (cs.getD i 0))) (congrArg Value.int (hln _ (by omega))) ?_
        have := tx_lt hlc i
        refine lv_bipush (v := nI 32) hx hb d_p15m6_31 (by decide) ?_
        refine pd_jeq (tgt := 39) hx hb d_p15m6_33 (by decide) (by omega) (by omega) (fun q25 => ?_) (fun q25 => ?_)
        · -- taken: 39
          refine lv_iload_n hx hb d_p15m6_39 rfl (lv_at hl 0 rfl) ?_
          refine lv_iload_n hx hb d_p15m6_40 rfl (lv_at hl 1 rfl) ?_
          refine pd_jne (tgt := 46) hx hb d_p15m6_41 (by decide) (by omega) (by omega) (fun q26 => ?_) (fun q26 => ?_)
          · -- taken: 46
            refine lv_aload_n hx hb d_p15m6_46 rfl (lv_at hl 2 rfl) ?_
            refine pd_get X w hy2 rfl 1 (by decide) mT_1140 rfl rfl d_p15m6_47 ?_
            refine lv_aload_n hx hb d_p15m6_50 rfl (lv_at hl 2 rfl) ?_
            refine pd_get X w hy2 rfl 4 (by decide) mT_1143 rfl rfl d_p15m6_51 ?_
            refine lv_iload_n hx hb d_p15m6_54 rfl (lv_at hl 1 rfl) ?_
            refine pd_iast X w ha1 (hMO.2.2 1 (by decide)).2 (by omega) (by omega) d_p15m6_55 (fun H locs w => ?_)
            have w : pd_w G s H locs (pd_up hh (ad 1) (31, .inl (.int, 40, .inl (upd f1 w9 (nI x9))))) := w
            obtain ⟨h27, u30⟩ : ∃ z, z = pd_up hh (ad 1) (31, .inl (.int, 40, .inl (upd f1 w9 (nI x9)))) := ⟨_, rfl⟩
            rw [← u30] at w
            have k28 : pd_kq (ad 1) hh h27 := by rw [u30]; exact pd_up_kq
            have f29 : h27 (ad 1) = some (31, .inl (.int, 40, .inl (upd f1 w9 (nI x9)))) := by rw [u30]; exact pd_up_s _ _ _
            have f31 := k28 _ _ (pd_ne hy2 ha1 (by simp)) hy2
            have f32 := k28 _ _ (pd_ne ha0 ha1 (by simp)) ha0
            have f33 := k28 _ _ (pd_ne ha2 ha1 (by simp)) ha2
            refine lv_aload_n hx hb d_p15m6_56 rfl (lv_at hl 2 rfl) ?_
            refine pd_get X w f31 rfl 2 (by decide) mT_1141 rfl rfl d_p15m6_57 ?_
            refine lv_aload_n hx hb d_p15m6_60 rfl (lv_at hl 2 rfl) ?_
            refine pd_get X w f31 rfl 4 (by decide) mT_1143 rfl rfl d_p15m6_61 ?_
            refine lv_iload_n hx hb d_p15m6_64 rfl (lv_at hl 0 rfl) ?_
            refine pd_iast X w f33 (hMO.2.2 2 (by decide)).2 (by omega) (by omega) d_p15m6_65 (fun H locs w => ?_)
            have w : pd_w G s H locs (pd_up h27 (ad 2) (32, .inl (.int, 40, .inl (upd f2 w9 (nI i))))) := w
            obtain ⟨h34, u37⟩ : ∃ z, z = pd_up h27 (ad 2) (32, .inl (.int, 40, .inl (upd f2 w9 (nI i)))) := ⟨_, rfl⟩
            rw [← u37] at w
            have k35 : pd_kq (ad 2) h27 h34 := by rw [u37]; exact pd_up_kq
            have f36 : h34 (ad 2) = some (32, .inl (.int, 40, .inl (upd f2 w9 (nI i)))) := by rw [u37]; exact pd_up_s _ _ _
            have f38 := k35 _ _ (pd_ne f31 f33 (by simp)) f31
            have f39 := k35 _ _ (pd_ne f32 f33 (by simp)) f32
            have f40 := k35 _ _ (pd_ne f29 f33 (by simp)) f29
            refine lv_aload_n hx hb d_p15m6_66 rfl (lv_at hl 2 rfl) ?_
            refine lv_dup hx hb d_p15m6_67 rfl ?_
            refine pd_get X w f38 rfl 4 (by decide) mT_1143 rfl rfl d_p15m6_68 ?_
            refine lv_iconst (v := nI 1) hx hb d_p15m6_71 (by decide) ?_
            refine pd_iadd hx hb d_p15m6_72 ?_
            refine pd_put (ty := .int) X w f38 hz_y rfl 4 (by decide) mT_1143 rfl rfl (by decide +kernel) rfl rfl (Nat.le_of_ble_eq_true rfl) d_p15m6_73 (fun H locs w => ?_)
            have w : pd_w G s H locs (pd_up h34 y (20, .inr (10, [.ref (ad 0), .ref (ad 1), .ref (ad 2), .int (iv 3), .int (nI (w9 + 1)), .int (iv 5), .ref (ad 6), .ref (ad 7), .ref (ad 8), .ref (ad 9), .ref (ad 10), .ref (ad 11), .int (iv 12), .ref (ad 13), .ref (ad 14), .ref (ad 15), .ref (ad 16), .ref (ad 17), .ref (ad 18), .ref (ad 19), .int (iv 20), .ref (ad 21), .ref (ad 22), .ref (ad 23), .ref (ad 24), .ref (ad 25), .ref (ad 26), .ref (ad 27), .ref (ad 28), .int (iv 29), .ref (ad 30), .ref (ad 31), .int (iv 32), .int (iv 33), .int (iv 34), .int (iv 35), .long tl, .int (iv 37), .int (iv 38), .int (iv 39), .int (iv 40), .ref (ad 41), .ref (ad 42), .int (iv 43)]))) := w
            obtain ⟨h41, u44⟩ : ∃ z, z = pd_up h34 y (20, .inr (10, [.ref (ad 0), .ref (ad 1), .ref (ad 2), .int (iv 3), .int (nI (w9 + 1)), .int (iv 5), .ref (ad 6), .ref (ad 7), .ref (ad 8), .ref (ad 9), .ref (ad 10), .ref (ad 11), .int (iv 12), .ref (ad 13), .ref (ad 14), .ref (ad 15), .ref (ad 16), .ref (ad 17), .ref (ad 18), .ref (ad 19), .int (iv 20), .ref (ad 21), .ref (ad 22), .ref (ad 23), .ref (ad 24), .ref (ad 25), .ref (ad 26), .ref (ad 27), .ref (ad 28), .int (iv 29), .ref (ad 30), .ref (ad 31), .int (iv 32), .int (iv 33), .int (iv 34), .int (iv 35), .long tl, .int (iv 37), .int (iv 38), .int (iv 39), .int (iv 40), .ref (ad 41), .ref (ad 42), .int (iv 43)])) := ⟨_, rfl⟩
            rw [← u44] at w
            have k42 : pd_kq y h34 h41 := by rw [u44]; exact pd_up_kq
            have f43 : h41 y = some (20, .inr (10, [.ref (ad 0), .ref (ad 1), .ref (ad 2), .int (iv 3), .int (nI (w9 + 1)), .int (iv 5), .ref (ad 6), .ref (ad 7), .ref (ad 8), .ref (ad 9), .ref (ad 10), .ref (ad 11), .int (iv 12), .ref (ad 13), .ref (ad 14), .ref (ad 15), .ref (ad 16), .ref (ad 17), .ref (ad 18), .ref (ad 19), .int (iv 20), .ref (ad 21), .ref (ad 22), .ref (ad 23), .ref (ad 24), .ref (ad 25), .ref (ad 26), .ref (ad 27), .ref (ad 28), .int (iv 29), .ref (ad 30), .ref (ad 31), .int (iv 32), .int (iv 33), .int (iv 34), .int (iv 35), .long tl, .int (iv 37), .int (iv 38), .int (iv 39), .int (iv 40), .ref (ad 41), .ref (ad 42), .int (iv 43)])) := by rw [u44]; exact pd_up_s _ _ _
            have f45 := k42 _ _ (pd_ne f39 f38 (by simp)) f39
            have f46 := k42 _ _ (pd_ne f40 f38 (by simp)) f40
            have f47 := k42 _ _ (pd_ne f36 f38 (by simp)) f36
            refine lv_iload_n hx hb d_p15m6_76 rfl (lv_at hl 0 rfl) ?_
            refine lv_iconst (v := nI 1) hx hb d_p15m6_77 (by decide) ?_
            refine pd_iadd hx hb d_p15m6_78 ?_
            refine lv_istore_n (lv' := [(1, .int (nI (i + 1))), (2, .int (nI i)), (0, .ref y)]) hx hb d_p15m6_79 rfl hl (by decide) rfl (fun ls hl => ?_)
            refine pd_iinc (k := 1) (d := 1) (lv' := [(2, .int (nI (i + 1))), (1, .int (nI (i + 1))), (0, .ref y)]) hx hb d_p15m6_80 (by decide) hl rfl (by decide) rfl (fun ls hl => ?_)
            refine lv_goto (tgt := 9) hx hb d_p15m6_83 (by decide) ?_
            exact ih (i + 1) (i + 1) (w9 + 1) (pd_fu sA w9 x9) (pd_fu eA w9 i) (upd f1 w9 (nI x9)) (upd f2 w9 (nI i)) h41 (by omega) (fun t ht => by by_cases e9 : t = w9; subst e9; rw [pk_us, pk_us, pd_fu_s, pd_fu_s]; exact ⟨rfl, rfl, by omega, by omega⟩; rw [pk_un e9, pk_un e9, pd_fu_n e9, pd_fu_n e9]; exact hwd t (by omega)) (hk2.tr (pd_kx.mono (us := [20, 31, 32]) (pd_kx.tr (pd_kx.mono (us := [31, 32, 20]) (pd_kx.tr (pd_kx.mono (us := [31, 32]) (pd_kq.kx (k28) ha1) (by simp)) (pd_kx.mono (us := [31, 32]) (pd_kq.kx (k35) f33) (by simp))) (by simp)) (pd_kx.mono (us := [31, 32, 20]) (pd_kq.kx (k42) f38) (by simp))) (by simp))) ((pd_MO.ext (fv2 := pd_fu (pd_fu fv 1 (upd f1 w9 (nI x9))) 2 (upd f2 w9 (nI i))) (iv2 := pd_fu iv 4 (nI (w9 + 1))) (pd_MO.of (fv2 := pd_fu (pd_fu (pd_fu (pd_fu fv 1 f1) 2 f2) 1 (upd f1 w9 (nI x9))) 2 (upd f2 w9 (nI i))) (iv2 := pd_fu (pd_fu iv 4 (nI w9)) 4 (nI (w9 + 1))) (tl2 := tl) (ts := [31, 32, 20]) hMO2 (pd_kx.tr (pd_kx.mono (us := [31, 32, 20]) (pd_kx.tr (pd_kx.mono (us := [31, 32]) (pd_kq.kx (k28) ha1) (by simp)) (pd_kx.mono (us := [31, 32]) (pd_kq.kx (k35) f33) (by simp))) (by simp)) (pd_kx.mono (us := [31, 32, 20]) (pd_kq.kx (k42) f38) (by simp))) f43 (fun j hj => if e1 : j = 1 then by subst e1; exact Or.inl f46 else if e2 : j = 2 then by subst e2; exact Or.inl f47 else Or.inr ⟨fun z => by first | (simp at z; done) | (simp at z; omega), by rw [pd_fu_n e2, pd_fu_n e1]⟩)) (fun j9 hj9 => by by_cases e9 : j9 = 2; subst e9; rfl; by_cases e8 : j9 = 1; subst e8; rfl; simp only [pd_fu, if_neg e9, if_neg e8]) rfl)) (by have z9 := gm_sp_w (cs := cs) (n := cs.length + 1 - i) (k := i) (w := w9) (x := x9) (a := sA) (b := eA) (by omega) (by omega) (by omega); rw [show cs.length + 1 - (i + 1) = cs.length + 1 - i - 1 by omega, ← z9]; exact hv) (by omega) _ _ w ls (lv_sub hl [0, 1, 2] rfl)
          · -- not taken: 44
            refine lv_iconst (v := nI 0) hx hb d_p15m6_44 (by decide) ?_
            exact pd_nret (v := 0) X w ⟨hk2, f1, f2, _, hMO2, by rw [← hv, gm_sp_0 (by omega) (by omega) (by omega)], fun z9 => absurd (by rw [← hv, gm_sp_0 (by omega) (by omega) (by omega)]) z9⟩ (by decide) (by decide) d_p15m6_45
        · -- not taken: 36
          refine lv_goto (tgt := 80) hx hb d_p15m6_36 (by decide) ?_
          refine pd_iinc (k := 0) (d := 1) (lv' := [(2, .int (nI (i + 1))), (1, .int (nI x9)), (0, .ref y)]) hx hb d_p15m6_80 (by decide) hl rfl (by decide) rfl (fun ls hl => ?_)
          refine lv_goto (tgt := 9) hx hb d_p15m6_83 (by decide) ?_
          exact ih (i + 1) x9 w9 sA eA f1 f2 hh (by omega) (hwd) (hk2) (hMO2) (by have z9 := gm_sp_c (cs := cs) (n := cs.length + 1 - i) (k := i) (w := w9) (x := x9) (a := sA) (b := eA) (by omega) (by omega); rw [show cs.length + 1 - (i + 1) = cs.length + 1 - i - 1 by omega, ← z9]; exact hv) (by omega) _ _ w ls (lv_sub hl [0, 1, 2] rfl)
set_option maxHeartbeats 4000000 in
set_option maxRecDepth 100000 in
theorem c_Mod_split (l : Launch) (G : pd_G) (h : pd_H) {y : Nat} {ad : Nat → Nat} {fv : Nat → Nat → Int32} {iv : Nat → Int32} {tl : Int64} {cs : List Nat} (hMO : pd_MO G h y ad fv iv tl) (hL : gm_L fv iv cs) : pd_M l y_Mod_split prog_15_method_6_code 3 (some .int) rm_Mod_split G h [.ref y] pd_vn (fun r h1 => pd_kx [20, 31, 32] h h1 ∧ ∃ f1 f2 v4, pd_MO G h1 y ad (pd_fu (pd_fu fv 1 f1) 2 f2) (pd_fu iv 4 v4) tl ∧ r = (gm_split cs).1 ∧ (¬ (gm_split cs).1 = 0 → gm_W (pd_fu (pd_fu fv 1 f1) 2 f2) cs (gm_split cs).1 (gm_split cs).2.1 (gm_split cs).2.2)) := by
  refine pd_M.of (by decide) (Nat.le_of_ble_eq_true rfl) ?_
  intro p e s m below meth c X hmn w ls hl
  have hx := X.1
  have hb := X.2.1
  have hl : lv_has ls 3 [(0, .ref y)] := hl
  have hz_y := hMO.2.1
  have hy0 : h y = some (20, .inr (10, [.ref (ad 0), .ref (ad 1), .ref (ad 2), .int (iv 3), .int (iv 4), .int (iv 5), .ref (ad 6), .ref (ad 7), .ref (ad 8), .ref (ad 9), .ref (ad 10), .ref (ad 11), .int (iv 12), .ref (ad 13), .ref (ad 14), .ref (ad 15), .ref (ad 16), .ref (ad 17), .ref (ad 18), .ref (ad 19), .int (iv 20), .ref (ad 21), .ref (ad 22), .ref (ad 23), .ref (ad 24), .ref (ad 25), .ref (ad 26), .ref (ad 27), .ref (ad 28), .int (iv 29), .ref (ad 30), .ref (ad 31), .int (iv 32), .int (iv 33), .int (iv 34), .int (iv 35), .long tl, .int (iv 37), .int (iv 38), .int (iv 39), .int (iv 40), .ref (ad 41), .ref (ad 42), .int (iv 43)])) := hMO.1
  have ha0 : h (ad 0) = some (30, .inl (.int, 60, .inl (fv 0))) := (hMO.2.2 0 (by decide)).1
  have ha1 : h (ad 1) = some (31, .inl (.int, 40, .inl (fv 1))) := (hMO.2.2 1 (by decide)).1
  have ha2 : h (ad 2) = some (32, .inl (.int, 40, .inl (fv 2))) := (hMO.2.2 2 (by decide)).1
  obtain ⟨hiv3, hln, hl60, hlc⟩ := id hL
  refine lv_aload_n hx hb d_p15m6_0 rfl (lv_at hl 0 rfl) ?_
  refine lv_iconst (v := nI 0) hx hb d_p15m6_1 (by decide) ?_
  refine pd_put (ty := .int) X w hy0 hz_y rfl 4 (by decide) mT_1143 rfl rfl (by decide +kernel) rfl rfl (Nat.le_of_ble_eq_true rfl) d_p15m6_2 (fun H locs w => ?_)
  have w : pd_w G s H locs (pd_up h y (20, .inr (10, [.ref (ad 0), .ref (ad 1), .ref (ad 2), .int (iv 3), .int (nI 0), .int (iv 5), .ref (ad 6), .ref (ad 7), .ref (ad 8), .ref (ad 9), .ref (ad 10), .ref (ad 11), .int (iv 12), .ref (ad 13), .ref (ad 14), .ref (ad 15), .ref (ad 16), .ref (ad 17), .ref (ad 18), .ref (ad 19), .int (iv 20), .ref (ad 21), .ref (ad 22), .ref (ad 23), .ref (ad 24), .ref (ad 25), .ref (ad 26), .ref (ad 27), .ref (ad 28), .int (iv 29), .ref (ad 30), .ref (ad 31), .int (iv 32), .int (iv 33), .int (iv 34), .int (iv 35), .long tl, .int (iv 37), .int (iv 38), .int (iv 39), .int (iv 40), .ref (ad 41), .ref (ad 42), .int (iv 43)]))) := w
  obtain ⟨h1, u4⟩ : ∃ z, z = pd_up h y (20, .inr (10, [.ref (ad 0), .ref (ad 1), .ref (ad 2), .int (iv 3), .int (nI 0), .int (iv 5), .ref (ad 6), .ref (ad 7), .ref (ad 8), .ref (ad 9), .ref (ad 10), .ref (ad 11), .int (iv 12), .ref (ad 13), .ref (ad 14), .ref (ad 15), .ref (ad 16), .ref (ad 17), .ref (ad 18), .ref (ad 19), .int (iv 20), .ref (ad 21), .ref (ad 22), .ref (ad 23), .ref (ad 24), .ref (ad 25), .ref (ad 26), .ref (ad 27), .ref (ad 28), .int (iv 29), .ref (ad 30), .ref (ad 31), .int (iv 32), .int (iv 33), .int (iv 34), .int (iv 35), .long tl, .int (iv 37), .int (iv 38), .int (iv 39), .int (iv 40), .ref (ad 41), .ref (ad 42), .int (iv 43)])) := ⟨_, rfl⟩
  rw [← u4] at w
  have k2 : pd_kq y h h1 := by rw [u4]; exact pd_up_kq
  have f3 : h1 y = some (20, .inr (10, [.ref (ad 0), .ref (ad 1), .ref (ad 2), .int (iv 3), .int (nI 0), .int (iv 5), .ref (ad 6), .ref (ad 7), .ref (ad 8), .ref (ad 9), .ref (ad 10), .ref (ad 11), .int (iv 12), .ref (ad 13), .ref (ad 14), .ref (ad 15), .ref (ad 16), .ref (ad 17), .ref (ad 18), .ref (ad 19), .int (iv 20), .ref (ad 21), .ref (ad 22), .ref (ad 23), .ref (ad 24), .ref (ad 25), .ref (ad 26), .ref (ad 27), .ref (ad 28), .int (iv 29), .ref (ad 30), .ref (ad 31), .int (iv 32), .int (iv 33), .int (iv 34), .int (iv 35), .long tl, .int (iv 37), .int (iv 38), .int (iv 39), .int (iv 40), .ref (ad 41), .ref (ad 42), .int (iv 43)])) := by rw [u4]; exact pd_up_s _ _ _
  have f5 := k2 _ _ (pd_ne ha0 hy0 (by simp)) ha0
  have f6 := k2 _ _ (pd_ne ha1 hy0 (by simp)) ha1
  have f7 := k2 _ _ (pd_ne ha2 hy0 (by simp)) ha2
  refine lv_iconst (v := nI 0) hx hb d_p15m6_5 (by decide) ?_
  refine lv_istore_n (lv' := [(1, .int (nI 0)), (0, .ref y)]) hx hb d_p15m6_6 rfl hl (by decide) rfl (fun ls hl => ?_)
  refine lv_iconst (v := nI 0) hx hb d_p15m6_7 (by decide) ?_
  refine lv_istore_n (lv' := [(2, .int (nI 0)), (1, .int (nI 0)), (0, .ref y)]) hx hb d_p15m6_8 rfl hl (by decide) rfl (fun ls hl => ?_)
  exact lp_Mod_split_9 l G h hMO hL X hmn (cs.length + 2 + 1) 0 0 0 (fun _ => 0) (fun _ => 0) (fv 1) (fv 2) h1 (by omega) (fun t ht => absurd ht (Nat.not_lt_zero t)) (pd_kx.mono (us := [20, 31, 32]) (pd_kq.kx (k2) hy0) (by simp)) ((pd_MO.ext (fv2 := pd_fu (pd_fu fv 1 (fv 1)) 2 (fv 2)) (iv2 := pd_fu iv 4 (nI (0))) (pd_MO.of (fv2 := fv) (iv2 := pd_fu iv 4 (nI 0)) (tl2 := tl) (ts := [20]) hMO (pd_kq.kx (k2) hy0) f3 (fun j hj => Or.inr ⟨fun z => by first | (simp at z; done) | (simp at z; omega), rfl⟩)) (fun j9 hj9 => by by_cases e9 : j9 = 2; subst e9; rfl; by_cases e8 : j9 = 1; subst e8; rfl; simp only [pd_fu, if_neg e9, if_neg e8]) rfl)) (rfl) (by omega) _ _ w ls (lv_sub hl [0, 1, 2] rfl)
