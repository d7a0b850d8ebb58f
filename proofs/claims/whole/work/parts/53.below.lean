/-! through the classes above -/
def gm_ch (R : Nat → pd_cr) : Nat → Option Nat → List Nat
  | 0, _ => []
  | _ + 1, none => []
  | f + 1, some x => x :: gm_ch R f (R x).2.2.1
theorem gm_ch_0 {R : Nat → pd_cr} {f : Nat} : gm_ch R f none = [] := by cases f <;> rfl
theorem gm_ch_s {R : Nat → pd_cr} {f x : Nat} (h : x < f) : gm_ch R f (some x) = x :: gm_ch R (f - 1) (R x).2.2.1 := by
  obtain ⟨f, rfl⟩ : ∃ z, f = z + 1 := ⟨f - 1, by omega⟩
  rfl
theorem gm_tr {n : Nat} {R : Nat → pd_cr} (hK : gm_K n R) : ∀ x, x < n → ∀ z ∈ (R x).2.2.2.2.2.2, ∀ w ∈ (R z).2.2.2.2.2.2, w ∈ (R x).2.2.2.2.2.2 := by
  intro x
  induction x using Nat.strongRecOn with
  | ind x ih =>
    intro hx z hz w hw
    obtain ⟨y, hy, hyz⟩ := (gm_G4 hK hx).mp hz
    have hyx := ((hK x hx).2.1 y hy).1
    refine (gm_G4 hK hx).mpr ⟨y, hy, Or.inr ?_⟩
    rcases hyz with e | e
    · rw [← e]; exact hw
    · exact ih y hyx (by omega) z e w hw
/-- the faces of what is ordered are ordered, but perhaps those of o -/
def gm_cl (R : Nat → pd_cr) (o : Option Nat) (od : List Nat) : Prop := ∀ z ∈ od, (R z).2.1 = true → o = some z ∨ ∀ w ∈ (R z).2.2.2.2.2.2, w ∈ od
theorem gm_cl.J {n : Nat} {R : Nat → pd_cr} {od : List Nat} {x : Nat} (hK : gm_K n R) (hx : x < n) (h : gm_cl R (some x) od) : gm_J R (gm_fl (R x)) od := by
  intro z hz hi
  rcases h z hz hi with e | e
  · cases e
    exact ⟨gm_fl (R x), [], (List.append_nil _).symm, fun y hy => ((hK x hx).2.1 y hy).1, fun w hw => Or.inr ((gm_G4 hK hx).mp hw)⟩
  · exact ⟨[], gm_fl (R x), rfl, (fun y hy => by cases hy), fun w hw => Or.inl (e w hw)⟩
theorem gm_cl.next {n : Nat} {R : Nat → pd_cr} {od : List Nat} {x : Nat} {o : Option Nat} (hK : gm_K n R) (hx : x < n) (h : gm_cl R (some x) od) : gm_cl R o ((R x).2.2.2.2.2.2.foldl al_add od) := by
  intro z hz hi
  right
  intro w hw
  rcases (al_fold_mem _ _).mp hz with c | c
  · rcases h z c hi with e | e
    · cases e
      exact (al_fold_mem _ _).mpr (Or.inr hw)
    · exact (al_fold_mem _ _).mpr (Or.inl (e w hw))
  · exact (al_fold_mem _ _).mpr (Or.inr (gm_tr hK x hx z c w hw))
theorem gm_cl.add {R : Nat → pd_cr} {od : List Nat} {x : Nat} (h : ∀ z ∈ od, (R z).2.1 = true → ∀ w ∈ (R z).2.2.2.2.2.2, w ∈ od) : gm_cl R (some x) (al_add od x) := by
  intro z hz hi
  rcases (al_fold_mem [x] od (z := z)).mp hz with c | c
  · exact Or.inr (fun w hw => (al_fold_mem [x] od).mpr (Or.inl (h z c hi w hw)))
  · exact Or.inl (by rw [List.mem_singleton.mp c])
def gm_F (R : Nat → pd_cr) (od : List Nat) (x : Nat) : List Nat := (R x).2.2.2.2.2.2.foldl al_add od
def gm_all (R : Nat → pd_cr) (x : Nat) : List Nat := (gm_ch R 14 (some x)).foldl (gm_F R) ((gm_ch R 14 (some x)).foldl al_add [])
theorem gm_F_lt {n : Nat} {R : Nat → pd_cr} (hK : gm_K n R) : ∀ x, x < n → ∀ z ∈ (R x).2.2.2.2.2.2, z < n := by
  intro x
  induction x using Nat.strongRecOn with
  | ind x ih =>
    intro hx z hz
    obtain ⟨y, hy, hyz⟩ := (gm_G4 hK hx).mp hz
    have hyx := ((hK x hx).2.1 y hy).1
    rcases hyz with e | e
    · omega
    · exact ih y hyx (by omega) z e
theorem gm_ch_pl {n : Nat} {R : Nat → pd_cr} (hK : gm_K n R) : ∀ f x, x < n → ∀ z ∈ gm_ch R f (some x), (R z).2.1 = true → z = x
  | 0, _, _, _, h, _ => by cases h
  | f + 1, x, hx, z, h, hi => by
    rcases List.mem_cons.mp h with e | e
    · exact e
    · exfalso
      have key : ∀ f x, x < n → ∀ z ∈ gm_ch R f (R x).2.2.1, (R z).2.1 = false := by
        intro f
        induction f with
        | zero => intro x hx z hz; cases hz
        | succ f ih =>
          intro x hx z hz
          cases e : (R x).2.2.1 with
          | none => rw [e] at hz; cases hz
          | some j =>
            rw [e] at hz
            have hj := (hK x hx).2.2.1 j e
            rcases List.mem_cons.mp hz with e2 | e2
            · rw [e2]; exact hj.2
            · exact ih j (by omega) z e2
      have := key f x hx z e
      rw [hi] at this
      cases this
def gm_bel (R : Nat → pd_cr) (x d : Nat) : Bool := decide (d = 0 ∨ d ∈ gm_all R x)
theorem d_p15m26_0 : decode prog_15_method_26_code 0 = .ok (.aload_n 0, 1) := by decide +kernel
theorem d_p15m26_1 : decode prog_15_method_26_code 1 = .ok (.iconst 0, 1) := by decide +kernel
theorem d_p15m26_2 : decode prog_15_method_26_code 2 = .ok (.putfield 158, 3) := by decide +kernel
theorem d_p15m26_5 : decode prog_15_method_26_code 5 = .ok (.iload_n 1, 1) := by decide +kernel
theorem d_p15m26_6 : decode prog_15_method_26_code 6 = .ok (.istore_n 3, 1) := by decide +kernel
theorem d_p15m26_7 : decode prog_15_method_26_code 7 = .ok (.iload_n 3, 1) := by decide +kernel
theorem d_p15m26_8 : decode prog_15_method_26_code 8 = .ok (.ifCond .lt 41, 3) := by decide +kernel
theorem d_p15m26_11 : decode prog_15_method_26_code 11 = .ok (.aload_n 0, 1) := by decide +kernel
theorem d_p15m26_12 : decode prog_15_method_26_code 12 = .ok (.iload_n 3, 1) := by decide +kernel
theorem d_p15m26_13 : decode prog_15_method_26_code 13 = .ok (.invokevirtual 155, 3) := by decide +kernel
theorem d_p15m26_16 : decode prog_15_method_26_code 16 = .ok (.ifCond .ne 23, 3) := by decide +kernel
theorem d_p15m26_19 : decode prog_15_method_26_code 19 = .ok (.aload_n 0, 1) := by decide +kernel
theorem d_p15m26_20 : decode prog_15_method_26_code 20 = .ok (.getfield 93, 3) := by decide +kernel
theorem d_p15m26_23 : decode prog_15_method_26_code 23 = .ok (.aload_n 0, 1) := by decide +kernel
theorem d_p15m26_24 : decode prog_15_method_26_code 24 = .ok (.getfield 158, 3) := by decide +kernel
theorem d_p15m26_27 : decode prog_15_method_26_code 27 = .ok (.iload_n 3, 1) := by decide +kernel
theorem d_p15m26_28 : decode prog_15_method_26_code 28 = .ok (.iastore, 1) := by decide +kernel
theorem d_p15m26_29 : decode prog_15_method_26_code 29 = .ok (.aload_n 0, 1) := by decide +kernel
theorem d_p15m26_30 : decode prog_15_method_26_code 30 = .ok (.dup, 1) := by decide +kernel
theorem d_p15m26_31 : decode prog_15_method_26_code 31 = .ok (.getfield 158, 3) := by decide +kernel
theorem d_p15m26_34 : decode prog_15_method_26_code 34 = .ok (.iconst 1, 1) := by decide +kernel
theorem d_p15m26_35 : decode prog_15_method_26_code 35 = .ok (.iadd, 1) := by decide +kernel
theorem d_p15m26_36 : decode prog_15_method_26_code 36 = .ok (.putfield 158, 3) := by decide +kernel
theorem d_p15m26_39 : decode prog_15_method_26_code 39 = .ok (.aload_n 0, 1) := by decide +kernel
theorem d_p15m26_40 : decode prog_15_method_26_code 40 = .ok (.getfield 25, 3) := by decide +kernel
theorem d_p15m26_43 : decode prog_15_method_26_code 43 = .ok (.iload_n 3, 1) := by decide +kernel
theorem d_p15m26_44 : decode prog_15_method_26_code 44 = .ok (.iaload, 1) := by decide +kernel
theorem d_p15m26_45 : decode prog_15_method_26_code 45 = .ok (.istore_n 3, 1) := by decide +kernel
theorem d_p15m26_46 : decode prog_15_method_26_code 46 = .ok (.goto (-39), 3) := by decide +kernel
theorem d_p15m26_49 : decode prog_15_method_26_code 49 = .ok (.iload_n 1, 1) := by decide +kernel
theorem d_p15m26_50 : decode prog_15_method_26_code 50 = .ok (.istore_n 3, 1) := by decide +kernel
theorem d_p15m26_51 : decode prog_15_method_26_code 51 = .ok (.iload_n 3, 1) := by decide +kernel
theorem d_p15m26_52 : decode prog_15_method_26_code 52 = .ok (.ifCond .lt 18, 3) := by decide +kernel
theorem d_p15m26_55 : decode prog_15_method_26_code 55 = .ok (.aload_n 0, 1) := by decide +kernel
theorem d_p15m26_56 : decode prog_15_method_26_code 56 = .ok (.iload_n 3, 1) := by decide +kernel
theorem d_p15m26_57 : decode prog_15_method_26_code 57 = .ok (.invokevirtual 161, 3) := by decide +kernel
theorem d_p15m26_60 : decode prog_15_method_26_code 60 = .ok (.aload_n 0, 1) := by decide +kernel
theorem d_p15m26_61 : decode prog_15_method_26_code 61 = .ok (.getfield 25, 3) := by decide +kernel
theorem d_p15m26_64 : decode prog_15_method_26_code 64 = .ok (.iload_n 3, 1) := by decide +kernel
theorem d_p15m26_65 : decode prog_15_method_26_code 65 = .ok (.iaload, 1) := by decide +kernel
theorem d_p15m26_66 : decode prog_15_method_26_code 66 = .ok (.istore_n 3, 1) := by decide +kernel
theorem d_p15m26_67 : decode prog_15_method_26_code 67 = .ok (.goto (-16), 3) := by decide +kernel
theorem d_p15m26_70 : decode prog_15_method_26_code 70 = .ok (.iload_n 2, 1) := by decide +kernel
theorem d_p15m26_71 : decode prog_15_method_26_code 71 = .ok (.ifCond .eq 11, 3) := by decide +kernel
theorem d_p15m26_74 : decode prog_15_method_26_code 74 = .ok (.aload_n 0, 1) := by decide +kernel
theorem d_p15m26_75 : decode prog_15_method_26_code 75 = .ok (.iload_n 2, 1) := by decide +kernel
theorem d_p15m26_76 : decode prog_15_method_26_code 76 = .ok (.invokevirtual 155, 3) := by decide +kernel
theorem d_p15m26_79 : decode prog_15_method_26_code 79 = .ok (.ifCond .eq 7, 3) := by decide +kernel
theorem d_p15m26_82 : decode prog_15_method_26_code 82 = .ok (.iconst 1, 1) := by decide +kernel
theorem d_p15m26_83 : decode prog_15_method_26_code 83 = .ok (.goto 4, 3) := by decide +kernel
theorem d_p15m26_86 : decode prog_15_method_26_code 86 = .ok (.iconst 0, 1) := by decide +kernel
theorem d_p15m26_87 : decode prog_15_method_26_code 87 = .ok (.ireturn, 1) := by decide +kernel
abbrev y_Mod_isBelow : MethodName := ⟨"PolicyDeskModel", "isBelow", "(II)Z"⟩
theorem ok_Mod_isBelow : pd_ok y_Mod_isBelow prog_15_method_26_code 4 (some .boolean) 2 := ⟨mT_1412, mT_21, by decide, by decide +kernel⟩
abbrev rm_Mod_isBelow : Room := { frames := 2, cells := 0, slots := 0, locals := 46 }
set_option maxHeartbeats 4000000 in
set_option maxRecDepth 100000 in
theorem lp_Mod_isBelow_51 (l : Launch) (G : pd_G) (h : pd_H) {y : Nat} {ad : Nat → Nat} {fv : Nat → Nat → Int32} {iv : Nat → Int32} {tl : Int64} {n : Nat} {R : Nat → pd_cr} {c9 d9 : Nat} (hMO : pd_MO G h y ad fv iv tl) (hC : gm_C fv iv n R) (hK : gm_K n R) (hc9 : c9 < n) (hd9 : d9 < 14) {p : Program} {e : Env} {s : State} {m : MethodId} {below : List Frame} {meth : Method} {c : Code} (X : pd_B p s m [.ref y, .int (nI c9), .int (nI d9)].toArray meth c G y_Mod_isBelow.cls prog_15_method_26_code 4 (some .boolean)) (hmn : meth.name = y_Mod_isBelow.name) :
    ∀ (kk9 : Nat) (o9 : Option Nat) (fe : Nat) (od2 : List Nat) (fo1 : Nat → Int32) (fo2 : Nat → Int32) (v43 : Int32) (hh : pd_H), (pd_kx [20, 71, 72] h hh) → (pd_MO G hh y ad (pd_fu (pd_fu fv 41 fo1) 42 fo2) (pd_fu iv 43 v43) tl) → (∀ t, o9 = some t → t < n) → (∀ t, o9 = some t → t < fe) → (gm_O (pd_fu (pd_fu fv 41 fo1) 42 fo2) (pd_fu iv 43 v43) od2) → (od2.Nodup) → (∀ z ∈ od2, z < n) → (gm_cl R o9 od2) → ((gm_ch R fe o9).foldl (gm_F R) od2 = gm_all R c9) → fe < kk9 → ∀ (H : Heap) (locs : List Loc), pd_w G s H locs hh → ∀ ls : Array Slot, lv_has ls 4 [(3, .int (pd_m o9)), (0, .ref y), (1, .int (nI c9)), (2, .int (nI d9))] → W p l e rm_Mod_isBelow s m [.ref y, .int (nI c9), .int (nI d9)].toArray below meth c H locs 0 0 (MQ below (pd_Q G pd_vb (fun r h1 => r = gm_bel R c9 d9 ∧ pd_kx [20, 71, 72] h h1 ∧ ∃ fo1 fo2 v43, pd_MO G h1 y ad (pd_fu (pd_fu fv 41 fo1) 42 fo2) (pd_fu iv 43 v43) tl)) [.ref y, .int (nI c9), .int (nI d9)].toArray s rm_Mod_isBelow.cells rm_Mod_isBelow.slots (fun q => G.2.1 ≤ q)) (F0 m 51 ls []) := by
  have hx := X.1
  have hb := X.2.1
  have hz_y := hMO.2.1
  have hy0 : h y = some (20, .inr (10, [.ref (ad 0), .ref (ad 1), .ref (ad 2), .int (iv 3), .int (iv 4), .int (iv 5), .ref (ad 6), .ref (ad 7), .ref (ad 8), .ref (ad 9), .ref (ad 10), .ref (ad 11), .int (iv 12), .ref (ad 13), .ref (ad 14), .ref (ad 15), .ref (ad 16), .ref (ad 17), .ref (ad 18), .ref (ad 19), .int (iv 20), .ref (ad 21), .ref (ad 22), .ref (ad 23), .ref (ad 24), .ref (ad 25), .ref (ad 26), .ref (ad 27), .ref (ad 28), .int (iv 29), .ref (ad 30), .ref (ad 31), .int (iv 32), .int (iv 33), .int (iv 34), .int (iv 35), .long tl, .int (iv 37), .int (iv 38), .int (iv 39), .int (iv 40), .ref (ad 41), .ref (ad 42), .int (iv 43)])) := hMO.1
  have ha8 : h (ad 8) = some (38, .inl (.int, 14, .inl (fv 8))) := (hMO.2.2 8 (by decide)).1
  have ha41 : h (ad 41) = some (71, .inl (.int, 16, .inl (fv 41))) := (hMO.2.2 41 (by decide)).1
  have ha42 : h (ad 42) = some (72, .inl (.int, 32, .inl (fv 42))) := (hMO.2.2 42 (by decide)).1
  obtain ⟨hiv12, hn2, hn14, hCc⟩ := id hC
  intro kk9
  induction kk9 with
  | zero => intros; omega
  | succ kk9 ih =>
    intro o9 fe od2 fo1 fo2 v43 hh hk2 hMO2 ho9 hfe hO9 hnd9 hlt9 hcl hv hmu H locs w ls hl
    have hz_y := hMO2.2.1
    have hy2 : hh y = some (20, .inr (10, [.ref (ad 0), .ref (ad 1), .ref (ad 2), .int (iv 3), .int (iv 4), .int (iv 5), .ref (ad 6), .ref (ad 7), .ref (ad 8), .ref (ad 9), .ref (ad 10), .ref (ad 11), .int (iv 12), .ref (ad 13), .ref (ad 14), .ref (ad 15), .ref (ad 16), .ref (ad 17), .ref (ad 18), .ref (ad 19), .int (iv 20), .ref (ad 21), .ref (ad 22), .ref (ad 23), .ref (ad 24), .ref (ad 25), .ref (ad 26), .ref (ad 27), .ref (ad 28), .int (iv 29), .ref (ad 30), .ref (ad 31), .int (iv 32), .int (iv 33), .int (iv 34), .int (iv 35), .long tl, .int (iv 37), .int (iv 38), .int (iv 39), .int (iv 40), .ref (ad 41), .ref (ad 42), .int v43])) := hMO2.1
    have ha8 : hh (ad 8) = some (38, .inl (.int, 14, .inl (fv 8))) := (hMO2.2.2 8 (by decide)).1
    have ha41 : hh (ad 41) = some (71, .inl (.int, 16, .inl (fo1))) := (hMO2.2.2 41 (by decide)).1
    have ha42 : hh (ad 42) = some (72, .inl (.int, 32, .inl (fo2))) := (hMO2.2.2 42 (by decide)).1
    have hil : ∀ x, o9 = some x → x < 2 ^ 31 := fun x hx => by have := ho9 x hx; omega
    refine lv_iload_n hx hb d_p15m26_51 rfl (lv_at hl 0 rfl) ?_
    refine pd_mlt (tgt := 70) hx hb d_p15m26_52 (by decide) hil (fun q1 => ?_) (fun j2 q1 => ?_)
    · -- none: 70
      rw [q1] at hl
      have hl : lv_has ls 4 [(3, .int (-1)), (0, .ref y), (1, .int (nI c9)), (2, .int (nI d9))] := hl
      have hall : od2 = gm_all R c9 := by rw [← hv, q1, gm_ch_0]; rfl
      refine lv_iload_n hx hb d_p15m26_70 rfl (lv_at hl 3 rfl) ?_
      refine pd_zeq (tgt := 82) hx hb d_p15m26_71 (by decide) (by omega) (fun q3 => ?_) (fun q3 => ?_)
      · -- taken: 82
        refine lv_iconst (v := nI 1) hx hb d_p15m26_82 (by decide) ?_
        refine lv_goto (tgt := 87) hx hb d_p15m26_83 (by decide) ?_
        refine W.eq (g2 := F0 m 87 ls [.int (pd_b true)]) rfl ?_
        exact pd_zret (v := true) X w ⟨(decide_eq_true (Or.inl (by omega))).symm, hk2, fo1, fo2, v43, hMO2⟩ (by decide) (by decide) d_p15m26_87
      · -- not taken: 74
        refine lv_aload_n hx hb d_p15m26_74 rfl (lv_at hl 1 rfl) ?_
        refine lv_iload_n hx hb d_p15m26_75 rfl (lv_at hl 3 rfl) ?_
        refine pd_cV (a := y) (As := [.int (nI d9)]) (rest := []) X w hy2 rfl (c_Mod_isOrdered l G hh (od := od2) (ad := ad) (fv := pd_fu (pd_fu fv 41 fo1) 42 fo2) (iv := pd_fu iv 43 v43) (tl := tl) hMO2 hO9 (by omega)) ok_Mod_isOrdered ⟨mT_1403, sT_38⟩ mT_1401 ⟨by decide, by decide⟩ rfl hl.1 rfl (Nat.le_of_ble_eq_true rfl) d_p15m26_76 ⟨by decide, by decide⟩ (fun r4 h5 H locs hp6 w => ?_)
        refine W.widen (k := 0) (n := 0) (by decide) (by decide) ?_
        obtain ⟨e7, rfl⟩ := hp6
        refine pd_beq (tgt := 86) hx hb d_p15m26_79 (by decide) (fun q8 => ?_) (fun q8 => ?_)
        · -- taken: 86
          refine lv_iconst (v := nI 0) hx hb d_p15m26_86 (by decide) ?_
          refine W.eq (g2 := F0 m 87 ls [.int (pd_b false)]) rfl ?_
          exact pd_zret (v := false) X w ⟨(decide_eq_false (fun z => z.elim (fun y => by omega) (fun y => of_decide_eq_false (e7.symm.trans q8) (by rw [hall]; exact y)))).symm, hk2, fo1, fo2, v43, hMO2⟩ (by decide) (by decide) d_p15m26_87
        · -- not taken: 82
          refine lv_iconst (v := nI 1) hx hb d_p15m26_82 (by decide) ?_
          refine lv_goto (tgt := 87) hx hb d_p15m26_83 (by decide) ?_
          refine W.eq (g2 := F0 m 87 ls [.int (pd_b true)]) rfl ?_
          exact pd_zret (v := true) X w ⟨(decide_eq_true (Or.inr (by rw [← hall]; exact of_decide_eq_true (e7.symm.trans q8)))).symm, hk2, fo1, fo2, v43, hMO2⟩ (by decide) (by decide) d_p15m26_87
    · -- some: 55
      rw [q1] at hl
      have hl : lv_has ls 4 [(3, .int (nI j2)), (0, .ref y), (1, .int (nI c9)), (2, .int (nI d9))] := hl
      have hxn := ho9 j2 q1
      have hxf := hfe j2 q1
      have hKx := hK j2 (by omega)
      refine lv_aload_n hx hb d_p15m26_55 rfl (lv_at hl 1 rfl) ?_
      refine lv_iload_n hx hb d_p15m26_56 rfl (lv_at hl 0 rfl) ?_
      refine pd_cVv (a := y) (As := [.int (nI j2)]) (rest := []) X w hy2 rfl (c_Mod_facesFrom l G hh (od := od2) (ad := ad) (fv := pd_fu (pd_fu fv 41 fo1) 42 fo2) (iv := pd_fu iv 43 v43) (tl := tl) hMO2 (by assumption) (by assumption) hO9 (by omega) (gm_cl.J hK hxn (q1 ▸ hcl)) hnd9 hlt9) ok_Mod_facesFrom ⟨mT_1407, sT_39⟩ mT_1405 ⟨by decide, by decide⟩ rfl hl.1 rfl (Nat.le_of_ble_eq_true rfl) d_p15m26_57 ⟨by decide, by decide⟩ (fun h10 H locs hp11 w => ?_)
      refine W.widen (k := 0) (n := 0) (by decide) (by decide) ?_
      obtain ⟨k12, f13, f14, v15, f16, f17⟩ := hp11
      have f18 := k12 _ _ ha8 (show (38 : Nat) ∉ [20, 71, 72] by decide)
      have mo20 : pd_MO G h10 y ad (pd_fu (pd_fu fv 41 f13) 42 f14) (pd_fu iv 43 v15) tl := pd_MO.ext f16 (fun j9 hj9 => by by_cases e941 : j9 = 41; subst e941; rfl; by_cases e942 : j9 = 42; subst e942; rfl; simp only [pd_fu, if_neg e941, if_neg e942]) rfl
      have hy21 : h10 y = some (20, .inr (10, [.ref (ad 0), .ref (ad 1), .ref (ad 2), .int (iv 3), .int (iv 4), .int (iv 5), .ref (ad 6), .ref (ad 7), .ref (ad 8), .ref (ad 9), .ref (ad 10), .ref (ad 11), .int (iv 12), .ref (ad 13), .ref (ad 14), .ref (ad 15), .ref (ad 16), .ref (ad 17), .ref (ad 18), .ref (ad 19), .int (iv 20), .ref (ad 21), .ref (ad 22), .ref (ad 23), .ref (ad 24), .ref (ad 25), .ref (ad 26), .ref (ad 27), .ref (ad 28), .int (iv 29), .ref (ad 30), .ref (ad 31), .int (iv 32), .int (iv 33), .int (iv 34), .int (iv 35), .long tl, .int (iv 37), .int (iv 38), .int (iv 39), .int (iv 40), .ref (ad 41), .ref (ad 42), .int v15])) := mo20.1
      have ha22 : h10 (ad 8) = some (38, .inl (.int, 14, .inl (fv 8))) := (mo20.2.2 8 (by decide)).1
      have ha23 : h10 (ad 41) = some (71, .inl (.int, 16, .inl (f13))) := (mo20.2.2 41 (by decide)).1
      have ha24 : h10 (ad 42) = some (72, .inl (.int, 32, .inl (f14))) := (mo20.2.2 42 (by decide)).1
      have f19 : gm_O (pd_fu (pd_fu fv 41 f13) 42 f14) (pd_fu iv 43 v15) (gm_F R (od2) j2) := f17
      refine lv_aload_n hx hb d_p15m26_60 rfl (lv_at hl 1 rfl) ?_
      refine pd_get X w hy21 rfl 8 (by decide) mT_1147 rfl rfl d_p15m26_61 ?_
      refine lv_iload_n hx hb d_p15m26_64 rfl (lv_at hl 0 rfl) ?_
      refine pd_iald X w ha22 (by omega) (by omega) d_p15m26_65 ?_
      refine pd_top (v' := .int (pd_m ((R j2).2.2.1))) (congrArg Value.int (hCc j2 (by omega)).2.2.2.2.1) ?_
      refine lv_istore_n (lv' := [(3, .int (pd_m ((R j2).2.2.1))), (0, .ref y), (1, .int (nI c9)), (2, .int (nI d9))]) hx hb d_p15m26_66 rfl hl (by decide) rfl (fun ls hl => ?_)
      refine lv_goto (tgt := 51) hx hb d_p15m26_67 (by decide) ?_
      exact ih ((R j2).2.2.1) (fe - 1) (gm_F R od2 j2) f13 f14 v15 h10 (hk2.tr (k12)) (mo20) (fun t ht => Nat.lt_trans (hKx.2.2.1 t ht).1 hxn) (fun t ht => by have := (hKx.2.2.1 t ht).1; omega) (f19) (al_fold_nd _ _ hnd9) (al_fold_lt _ _ hlt9 (gm_F_lt hK j2 hxn)) (gm_cl.next hK hxn (q1 ▸ hcl)) (by rw [← hv, q1, gm_ch_s hxf]; rfl) (by omega) _ _ w ls (lv_sub hl [0, 1, 2, 3] rfl)
set_option maxHeartbeats 4000000 in
set_option maxRecDepth 100000 in
theorem lp_Mod_isBelow_7 (l : Launch) (G : pd_G) (h : pd_H) {y : Nat} {ad : Nat → Nat} {fv : Nat → Nat → Int32} {iv : Nat → Int32} {tl : Int64} {n : Nat} {R : Nat → pd_cr} {c9 d9 : Nat} (hMO : pd_MO G h y ad fv iv tl) (hC : gm_C fv iv n R) (hK : gm_K n R) (hc9 : c9 < n) (hd9 : d9 < 14) {p : Program} {e : Env} {s : State} {m : MethodId} {below : List Frame} {meth : Method} {c : Code} (X : pd_B p s m [.ref y, .int (nI c9), .int (nI d9)].toArray meth c G y_Mod_isBelow.cls prog_15_method_26_code 4 (some .boolean)) (hmn : meth.name = y_Mod_isBelow.name) :
    ∀ (kk9 : Nat) (o9 : Option Nat) (fe : Nat) (od2 : List Nat) (fo1 : Nat → Int32) (fo2 : Nat → Int32) (v43 : Int32) (hh : pd_H), (pd_kx [20, 71, 72] h hh) → (pd_MO G hh y ad (pd_fu (pd_fu fv 41 fo1) 42 fo2) (pd_fu iv 43 v43) tl) → (∀ t, o9 = some t → t < n) → (∀ t, o9 = some t → t < fe) → (gm_O (pd_fu (pd_fu fv 41 fo1) 42 fo2) (pd_fu iv 43 v43) od2) → (od2.Nodup) → (∀ z ∈ od2, z < n) → ((gm_ch R fe o9).foldl al_add od2 = (gm_ch R 14 (some c9)).foldl al_add []) → fe < kk9 → ∀ (H : Heap) (locs : List Loc), pd_w G s H locs hh → ∀ ls : Array Slot, lv_has ls 4 [(3, .int (pd_m o9)), (0, .ref y), (1, .int (nI c9)), (2, .int (nI d9))] → W p l e rm_Mod_isBelow s m [.ref y, .int (nI c9), .int (nI d9)].toArray below meth c H locs 0 0 (MQ below (pd_Q G pd_vb (fun r h1 => r = gm_bel R c9 d9 ∧ pd_kx [20, 71, 72] h h1 ∧ ∃ fo1 fo2 v43, pd_MO G h1 y ad (pd_fu (pd_fu fv 41 fo1) 42 fo2) (pd_fu iv 43 v43) tl)) [.ref y, .int (nI c9), .int (nI d9)].toArray s rm_Mod_isBelow.cells rm_Mod_isBelow.slots (fun q => G.2.1 ≤ q)) (F0 m 7 ls []) := by
  have hx := X.1
  have hb := X.2.1
  have hz_y := hMO.2.1
  have hy0 : h y = some (20, .inr (10, [.ref (ad 0), .ref (ad 1), .ref (ad 2), .int (iv 3), .int (iv 4), .int (iv 5), .ref (ad 6), .ref (ad 7), .ref (ad 8), .ref (ad 9), .ref (ad 10), .ref (ad 11), .int (iv 12), .ref (ad 13), .ref (ad 14), .ref (ad 15), .ref (ad 16), .ref (ad 17), .ref (ad 18), .ref (ad 19), .int (iv 20), .ref (ad 21), .ref (ad 22), .ref (ad 23), .ref (ad 24), .ref (ad 25), .ref (ad 26), .ref (ad 27), .ref (ad 28), .int (iv 29), .ref (ad 30), .ref (ad 31), .int (iv 32), .int (iv 33), .int (iv 34), .int (iv 35), .long tl, .int (iv 37), .int (iv 38), .int (iv 39), .int (iv 40), .ref (ad 41), .ref (ad 42), .int (iv 43)])) := hMO.1
  have ha8 : h (ad 8) = some (38, .inl (.int, 14, .inl (fv 8))) := (hMO.2.2 8 (by decide)).1
  have ha41 : h (ad 41) = some (71, .inl (.int, 16, .inl (fv 41))) := (hMO.2.2 41 (by decide)).1
  have ha42 : h (ad 42) = some (72, .inl (.int, 32, .inl (fv 42))) := (hMO.2.2 42 (by decide)).1
  obtain ⟨hiv12, hn2, hn14, hCc⟩ := id hC
  intro kk9
  induction kk9 with
  | zero => intros; omega
  | succ kk9 ih =>
    intro o9 fe od2 fo1 fo2 v43 hh hk2 hMO2 ho9 hfe hO9 hnd9 hlt9 hv hmu H locs w ls hl
    have hz_y := hMO2.2.1
    have hy2 : hh y = some (20, .inr (10, [.ref (ad 0), .ref (ad 1), .ref (ad 2), .int (iv 3), .int (iv 4), .int (iv 5), .ref (ad 6), .ref (ad 7), .ref (ad 8), .ref (ad 9), .ref (ad 10), .ref (ad 11), .int (iv 12), .ref (ad 13), .ref (ad 14), .ref (ad 15), .ref (ad 16), .ref (ad 17), .ref (ad 18), .ref (ad 19), .int (iv 20), .ref (ad 21), .ref (ad 22), .ref (ad 23), .ref (ad 24), .ref (ad 25), .ref (ad 26), .ref (ad 27), .ref (ad 28), .int (iv 29), .ref (ad 30), .ref (ad 31), .int (iv 32), .int (iv 33), .int (iv 34), .int (iv 35), .long tl, .int (iv 37), .int (iv 38), .int (iv 39), .int (iv 40), .ref (ad 41), .ref (ad 42), .int v43])) := hMO2.1
    have ha8 : hh (ad 8) = some (38, .inl (.int, 14, .inl (fv 8))) := (hMO2.2.2 8 (by decide)).1
    have ha41 : hh (ad 41) = some (71, .inl (.int, 16, .inl (fo1))) := (hMO2.2.2 41 (by decide)).1
    have ha42 : hh (ad 42) = some (72, .inl (.int, 32, .inl (fo2))) := (hMO2.2.2 42 (by decide)).1
    have hil : ∀ x, o9 = some x → x < 2 ^ 31 := fun x hx => by have := ho9 x hx; omega
    refine lv_iload_n hx hb d_p15m26_7 rfl (lv_at hl 0 rfl) ?_
    refine pd_mlt (tgt := 49) hx hb d_p15m26_8 (by decide) hil (fun q1 => ?_) (fun j2 q1 => ?_)
    · -- none: 49
      rw [q1] at hl
      have hl : lv_has ls 4 [(3, .int (-1)), (0, .ref y), (1, .int (nI c9)), (2, .int (nI d9))] := hl
      have hod : od2 = (gm_ch R 14 (some c9)).foldl al_add [] := by rw [← hv, q1, gm_ch_0]; rfl
      refine lv_iload_n hx hb d_p15m26_49 rfl (lv_at hl 2 rfl) ?_
      refine lv_istore_n (lv' := [(3, .int (nI c9)), (0, .ref y), (1, .int (nI c9)), (2, .int (nI d9))]) hx hb d_p15m26_50 rfl hl (by decide) rfl (fun ls hl => ?_)
      exact lp_Mod_isBelow_51 l G h hMO hC hK hc9 hd9 X hmn (14 + 1) (some c9) 14 od2 fo1 fo2 v43 hh (hk2) (hMO2) (fun t ht => by cases ht; exact hc9) (fun t ht => by cases ht; omega) (hO9) (hnd9) (hlt9) (by rw [hod]; intro z hz hi; rcases (al_fold_mem _ _).mp hz with y9 | y9; cases y9; exact Or.inl (by rw [gm_ch_pl hK 14 c9 hc9 z y9 hi])) (by rw [hod]; rfl) (by omega) _ _ w ls (lv_sub hl [0, 1, 2, 3] rfl)
    · -- some: 11
      rw [q1] at hl
      have hl : lv_has ls 4 [(3, .int (nI j2)), (0, .ref y), (1, .int (nI c9)), (2, .int (nI d9))] := hl
      have hxn := ho9 j2 q1
      have hxf := hfe j2 q1
      have hKx := hK j2 (by omega)
      refine lv_aload_n hx hb d_p15m26_11 rfl (lv_at hl 1 rfl) ?_
      refine lv_iload_n hx hb d_p15m26_12 rfl (lv_at hl 0 rfl) ?_
      refine pd_cV (a := y) (As := [.int (nI j2)]) (rest := []) X w hy2 rfl (c_Mod_isOrdered l G hh (od := od2) (ad := ad) (fv := pd_fu (pd_fu fv 41 fo1) 42 fo2) (iv := pd_fu iv 43 v43) (tl := tl) hMO2 hO9 (by omega)) ok_Mod_isOrdered ⟨mT_1403, sT_38⟩ mT_1401 ⟨by decide, by decide⟩ rfl hl.1 rfl (Nat.le_of_ble_eq_true rfl) d_p15m26_13 ⟨by decide, by decide⟩ (fun r3 h4 H locs hp5 w => ?_)
      refine W.widen (k := 0) (n := 0) (by decide) (by decide) ?_
      obtain ⟨e6, rfl⟩ := hp5
      refine pd_bne (tgt := 39) hx hb d_p15m26_16 (by decide) (fun q7 => ?_) (fun q7 => ?_)
      · -- taken: 39
        have hin9 : j2 ∈ od2 := of_decide_eq_true (e6.symm.trans q7)
        have hal := al_in hin9
        refine lv_aload_n hx hb d_p15m26_39 rfl (lv_at hl 1 rfl) ?_
        refine pd_get X w hy2 rfl 8 (by decide) mT_1147 rfl rfl d_p15m26_40 ?_
        refine lv_iload_n hx hb d_p15m26_43 rfl (lv_at hl 0 rfl) ?_
        refine pd_iald X w ha8 (by omega) (by omega) d_p15m26_44 ?_
        refine pd_top (v' := .int (pd_m ((R j2).2.2.1))) (congrArg Value.int (hCc j2 (by omega)).2.2.2.2.1) ?_
        refine lv_istore_n (lv' := [(3, .int (pd_m ((R j2).2.2.1))), (0, .ref y), (1, .int (nI c9)), (2, .int (nI d9))]) hx hb d_p15m26_45 rfl hl (by decide) rfl (fun ls hl => ?_)
        refine lv_goto (tgt := 7) hx hb d_p15m26_46 (by decide) ?_
        exact ih ((R j2).2.2.1) (fe - 1) (al_add od2 j2) fo1 fo2 v43 hh (hk2.tr (pd_kx.rf)) (hMO2) (fun t ht => Nat.lt_trans (hKx.2.2.1 t ht).1 hxn) (fun t ht => by have := (hKx.2.2.1 t ht).1; omega) (by rw [hal]; exact hO9) (al_nd hnd9) (al_lt hlt9 hxn) (by rw [← hv, q1, gm_ch_s hxf]; rfl) (by omega) _ _ w ls (lv_sub hl [0, 1, 2, 3] rfl)
      · -- not taken: 19
        have hnin : j2 ∉ od2 := of_decide_eq_false (e6.symm.trans q7)
        have hod13 := gm_J_len hnd9 hlt9 hxn hnin hn14
        have hOl := hO9.1
        refine lv_aload_n hx hb d_p15m26_19 rfl (lv_at hl 1 rfl) ?_
        refine pd_get X w hy2 rfl 41 (by decide) mT_1180 rfl rfl d_p15m26_20 ?_
        refine lv_aload_n hx hb d_p15m26_23 rfl (lv_at hl 1 rfl) ?_
        refine pd_get X w hy2 rfl 43 (by decide) mT_1182 rfl rfl d_p15m26_24 ?_
        refine pd_top (v' := .int (nI od2.length)) (congrArg Value.int hO9.1) ?_
        refine lv_iload_n hx hb d_p15m26_27 rfl (lv_at hl 0 rfl) ?_
        refine pd_iast X w ha41 (hMO.2.2 41 (by decide)).2 (by omega) (by omega) d_p15m26_28 (fun H locs w => ?_)
        have w : pd_w G s H locs (pd_up hh (ad 41) (71, .inl (.int, 16, .inl (upd fo1 od2.length (nI j2))))) := w
        obtain ⟨h8, u11⟩ : ∃ z, z = pd_up hh (ad 41) (71, .inl (.int, 16, .inl (upd fo1 od2.length (nI j2)))) := ⟨_, rfl⟩
        rw [← u11] at w
        have k9 : pd_kq (ad 41) hh h8 := by rw [u11]; exact pd_up_kq
        have f10 : h8 (ad 41) = some (71, .inl (.int, 16, .inl (upd fo1 od2.length (nI j2)))) := by rw [u11]; exact pd_up_s _ _ _
        have f12 := k9 _ _ (pd_ne hy2 ha41 (by simp)) hy2
        have f13 := k9 _ _ (pd_ne ha8 ha41 (by simp)) ha8
        have f14 := k9 _ _ (pd_ne ha42 ha41 (by simp)) ha42
        refine lv_aload_n hx hb d_p15m26_29 rfl (lv_at hl 1 rfl) ?_
        refine lv_dup hx hb d_p15m26_30 rfl ?_
        refine pd_get X w f12 rfl 43 (by decide) mT_1182 rfl rfl d_p15m26_31 ?_
        refine pd_top (v' := .int (nI od2.length)) (congrArg Value.int hO9.1) ?_
        refine lv_iconst (v := nI 1) hx hb d_p15m26_34 (by decide) ?_
        refine pd_iadd hx hb d_p15m26_35 ?_
        refine pd_put (ty := .int) X w f12 hz_y rfl 43 (by decide) mT_1182 rfl rfl (by decide +kernel) rfl rfl (Nat.le_of_ble_eq_true rfl) d_p15m26_36 (fun H locs w => ?_)
        have w : pd_w G s H locs (pd_up h8 y (20, .inr (10, [.ref (ad 0), .ref (ad 1), .ref (ad 2), .int (iv 3), .int (iv 4), .int (iv 5), .ref (ad 6), .ref (ad 7), .ref (ad 8), .ref (ad 9), .ref (ad 10), .ref (ad 11), .int (iv 12), .ref (ad 13), .ref (ad 14), .ref (ad 15), .ref (ad 16), .ref (ad 17), .ref (ad 18), .ref (ad 19), .int (iv 20), .ref (ad 21), .ref (ad 22), .ref (ad 23), .ref (ad 24), .ref (ad 25), .ref (ad 26), .ref (ad 27), .ref (ad 28), .int (iv 29), .ref (ad 30), .ref (ad 31), .int (iv 32), .int (iv 33), .int (iv 34), .int (iv 35), .long tl, .int (iv 37), .int (iv 38), .int (iv 39), .int (iv 40), .ref (ad 41), .ref (ad 42), .int (nI (od2.length + 1))]))) := w
        obtain ⟨h15, u18⟩ : ∃ z, z = pd_up h8 y (20, .inr (10, [.ref (ad 0), .ref (ad 1), .ref (ad 2), .int (iv 3), .int (iv 4), .int (iv 5), .ref (ad 6), .ref (ad 7), .ref (ad 8), .ref (ad 9), .ref (ad 10), .ref (ad 11), .int (iv 12), .ref (ad 13), .ref (ad 14), .ref (ad 15), .ref (ad 16), .ref (ad 17), .ref (ad 18), .ref (ad 19), .int (iv 20), .ref (ad 21), .ref (ad 22), .ref (ad 23), .ref (ad 24), .ref (ad 25), .ref (ad 26), .ref (ad 27), .ref (ad 28), .int (iv 29), .ref (ad 30), .ref (ad 31), .int (iv 32), .int (iv 33), .int (iv 34), .int (iv 35), .long tl, .int (iv 37), .int (iv 38), .int (iv 39), .int (iv 40), .ref (ad 41), .ref (ad 42), .int (nI (od2.length + 1))])) := ⟨_, rfl⟩
        rw [← u18] at w
        have k16 : pd_kq y h8 h15 := by rw [u18]; exact pd_up_kq
        have f17 : h15 y = some (20, .inr (10, [.ref (ad 0), .ref (ad 1), .ref (ad 2), .int (iv 3), .int (iv 4), .int (iv 5), .ref (ad 6), .ref (ad 7), .ref (ad 8), .ref (ad 9), .ref (ad 10), .ref (ad 11), .int (iv 12), .ref (ad 13), .ref (ad 14), .ref (ad 15), .ref (ad 16), .ref (ad 17), .ref (ad 18), .ref (ad 19), .int (iv 20), .ref (ad 21), .ref (ad 22), .ref (ad 23), .ref (ad 24), .ref (ad 25), .ref (ad 26), .ref (ad 27), .ref (ad 28), .int (iv 29), .ref (ad 30), .ref (ad 31), .int (iv 32), .int (iv 33), .int (iv 34), .int (iv 35), .long tl, .int (iv 37), .int (iv 38), .int (iv 39), .int (iv 40), .ref (ad 41), .ref (ad 42), .int (nI (od2.length + 1))])) := by rw [u18]; exact pd_up_s _ _ _
        have f19 := k16 _ _ (pd_ne f13 f12 (by simp)) f13
        have f20 := k16 _ _ (pd_ne f14 f12 (by simp)) f14
        have f21 := k16 _ _ (pd_ne f10 f12 (by simp)) f10
        have hal := al_out hnin
        refine lv_aload_n hx hb d_p15m26_39 rfl (lv_at hl 1 rfl) ?_
        refine pd_get X w f17 rfl 8 (by decide) mT_1147 rfl rfl d_p15m26_40 ?_
        refine lv_iload_n hx hb d_p15m26_43 rfl (lv_at hl 0 rfl) ?_
        refine pd_iald X w f19 (by omega) (by omega) d_p15m26_44 ?_
        refine pd_top (v' := .int (pd_m ((R j2).2.2.1))) (congrArg Value.int (hCc j2 (by omega)).2.2.2.2.1) ?_
        refine lv_istore_n (lv' := [(3, .int (pd_m ((R j2).2.2.1))), (0, .ref y), (1, .int (nI c9)), (2, .int (nI d9))]) hx hb d_p15m26_45 rfl hl (by decide) rfl (fun ls hl => ?_)
        refine lv_goto (tgt := 7) hx hb d_p15m26_46 (by decide) ?_
        have mo22 : pd_MO G h15 y ad (pd_fu (pd_fu (pd_fu fv 41 fo1) 42 fo2) 41 (upd fo1 od2.length (nI j2))) (pd_fu (pd_fu iv 43 v43) 43 (nI (od2.length + 1))) tl := pd_MO.of (ts := [71, 20]) hMO2 (pd_kx.tr (pd_kx.mono (us := [71, 20]) (pd_kq.kx (k9) ha41) (by simp)) (pd_kx.mono (us := [71, 20]) (pd_kq.kx (k16) f12) (by simp))) f17 (fun j hj => if e41 : j = 41 then by subst e41; exact Or.inl f21 else Or.inr ⟨fun z => by first | (simp at z; done) | (simp at z; omega), by rw [pd_fu_n e41]⟩)
        exact ih ((R j2).2.2.1) (fe - 1) (al_add od2 j2) (upd fo1 od2.length (nI j2)) fo2 (nI (od2.length + 1)) h15 (hk2.tr (pd_kx.mono (us := [20, 71, 72]) (pd_kx.tr (pd_kx.mono (us := [71, 20]) (pd_kq.kx (k9) ha41) (by simp)) (pd_kx.mono (us := [71, 20]) (pd_kq.kx (k16) f12) (by simp))) (by simp))) ((pd_MO.ext (fv2 := pd_fu (pd_fu fv 41 (upd fo1 od2.length (nI j2))) 42 (fo2)) (iv2 := pd_fu iv 43 ((nI (od2.length + 1)))) mo22 (fun j9 hj9 => by by_cases e9 : j9 = 42; subst e9; rfl; by_cases e8 : j9 = 41; subst e8; rfl; simp only [pd_fu, if_neg e9, if_neg e8]) rfl)) (fun t ht => Nat.lt_trans (hKx.2.2.1 t ht).1 hxn) (fun t ht => by have := (hKx.2.2.1 t ht).1; omega) (by rw [hal]; exact ⟨by show nI _ = nI _; rw [List.length_append]; rfl, by rw [List.length_append]; simp; omega, gm_O_app hO9.2.2 (by omega)⟩) (al_nd hnd9) (al_lt hlt9 hxn) (by rw [← hv, q1, gm_ch_s hxf]; rfl) (by omega) _ _ w ls (lv_sub hl [0, 1, 2, 3] rfl)
set_option maxHeartbeats 4000000 in
set_option maxRecDepth 100000 in
theorem c_Mod_isBelow (l : Launch) (G : pd_G) (h : pd_H) {y : Nat} {ad : Nat → Nat} {fv : Nat → Nat → Int32} {iv : Nat → Int32} {tl : Int64} {n : Nat} {R : Nat → pd_cr} {c9 d9 : Nat} (hMO : pd_MO G h y ad fv iv tl) (hC : gm_C fv iv n R) (hK : gm_K n R) (hc9 : c9 < n) (hd9 : d9 < 14) : pd_M l y_Mod_isBelow prog_15_method_26_code 4 (some .boolean) rm_Mod_isBelow G h [.ref y, .int (nI c9), .int (nI d9)] pd_vb (fun r h1 => r = gm_bel R c9 d9 ∧ pd_kx [20, 71, 72] h h1 ∧ ∃ fo1 fo2 v43, pd_MO G h1 y ad (pd_fu (pd_fu fv 41 fo1) 42 fo2) (pd_fu iv 43 v43) tl) := by
  refine pd_M.of (by decide) (Nat.le_of_ble_eq_true rfl) ?_
  intro p e s m below meth c X hmn w ls hl
  have hx := X.1
  have hb := X.2.1
  have hl : lv_has ls 4 [(0, .ref y), (1, .int (nI c9)), (2, .int (nI d9))] := hl
  have hz_y := hMO.2.1
  have hy0 : h y = some (20, .inr (10, [.ref (ad 0), .ref (ad 1), .ref (ad 2), .int (iv 3), .int (iv 4), .int (iv 5), .ref (ad 6), .ref (ad 7), .ref (ad 8), .ref (ad 9), .ref (ad 10), .ref (ad 11), .int (iv 12), .ref (ad 13), .ref (ad 14), .ref (ad 15), .ref (ad 16), .ref (ad 17), .ref (ad 18), .ref (ad 19), .int (iv 20), .ref (ad 21), .ref (ad 22), .ref (ad 23), .ref (ad 24), .ref (ad 25), .ref (ad 26), .ref (ad 27), .ref (ad 28), .int (iv 29), .ref (ad 30), .ref (ad 31), .int (iv 32), .int (iv 33), .int (iv 34), .int (iv 35), .long tl, .int (iv 37), .int (iv 38), .int (iv 39), .int (iv 40), .ref (ad 41), .ref (ad 42), .int (iv 43)])) := hMO.1
  have ha8 : h (ad 8) = some (38, .inl (.int, 14, .inl (fv 8))) := (hMO.2.2 8 (by decide)).1
  have ha41 : h (ad 41) = some (71, .inl (.int, 16, .inl (fv 41))) := (hMO.2.2 41 (by decide)).1
  have ha42 : h (ad 42) = some (72, .inl (.int, 32, .inl (fv 42))) := (hMO.2.2 42 (by decide)).1
  obtain ⟨hiv12, hn2, hn14, hCc⟩ := id hC
  refine lv_aload_n hx hb d_p15m26_0 rfl (lv_at hl 0 rfl) ?_
  refine lv_iconst (v := nI 0) hx hb d_p15m26_1 (by decide) ?_
  refine pd_put (ty := .int) X w hy0 hz_y rfl 43 (by decide) mT_1182 rfl rfl (by decide +kernel) rfl rfl (Nat.le_of_ble_eq_true rfl) d_p15m26_2 (fun H locs w => ?_)
  have w : pd_w G s H locs (pd_up h y (20, .inr (10, [.ref (ad 0), .ref (ad 1), .ref (ad 2), .int (iv 3), .int (iv 4), .int (iv 5), .ref (ad 6), .ref (ad 7), .ref (ad 8), .ref (ad 9), .ref (ad 10), .ref (ad 11), .int (iv 12), .ref (ad 13), .ref (ad 14), .ref (ad 15), .ref (ad 16), .ref (ad 17), .ref (ad 18), .ref (ad 19), .int (iv 20), .ref (ad 21), .ref (ad 22), .ref (ad 23), .ref (ad 24), .ref (ad 25), .ref (ad 26), .ref (ad 27), .ref (ad 28), .int (iv 29), .ref (ad 30), .ref (ad 31), .int (iv 32), .int (iv 33), .int (iv 34), .int (iv 35), .long tl, .int (iv 37), .int (iv 38), .int (iv 39), .int (iv 40), .ref (ad 41), .ref (ad 42), .int (nI 0)]))) := w
  obtain ⟨h1, u4⟩ : ∃ z, z = pd_up h y (20, .inr (10, [.ref (ad 0), .ref (ad 1), .ref (ad 2), .int (iv 3), .int (iv 4), .int (iv 5), .ref (ad 6), .ref (ad 7), .ref (ad 8), .ref (ad 9), .ref (ad 10), .ref (ad 11), .int (iv 12), .ref (ad 13), .ref (ad 14), .ref (ad 15), .ref (ad 16), .ref (ad 17), .ref (ad 18), .ref (ad 19), .int (iv 20), .ref (ad 21), .ref (ad 22), .ref (ad 23), .ref (ad 24), .ref (ad 25), .ref (ad 26), .ref (ad 27), .ref (ad 28), .int (iv 29), .ref (ad 30), .ref (ad 31), .int (iv 32), .int (iv 33), .int (iv 34), .int (iv 35), .long tl, .int (iv 37), .int (iv 38), .int (iv 39), .int (iv 40), .ref (ad 41), .ref (ad 42), .int (nI 0)])) := ⟨_, rfl⟩
  rw [← u4] at w
  have k2 : pd_kq y h h1 := by rw [u4]; exact pd_up_kq
  have f3 : h1 y = some (20, .inr (10, [.ref (ad 0), .ref (ad 1), .ref (ad 2), .int (iv 3), .int (iv 4), .int (iv 5), .ref (ad 6), .ref (ad 7), .ref (ad 8), .ref (ad 9), .ref (ad 10), .ref (ad 11), .int (iv 12), .ref (ad 13), .ref (ad 14), .ref (ad 15), .ref (ad 16), .ref (ad 17), .ref (ad 18), .ref (ad 19), .int (iv 20), .ref (ad 21), .ref (ad 22), .ref (ad 23), .ref (ad 24), .ref (ad 25), .ref (ad 26), .ref (ad 27), .ref (ad 28), .int (iv 29), .ref (ad 30), .ref (ad 31), .int (iv 32), .int (iv 33), .int (iv 34), .int (iv 35), .long tl, .int (iv 37), .int (iv 38), .int (iv 39), .int (iv 40), .ref (ad 41), .ref (ad 42), .int (nI 0)])) := by rw [u4]; exact pd_up_s _ _ _
  have f5 := k2 _ _ (pd_ne ha8 hy0 (by simp)) ha8
  have f6 := k2 _ _ (pd_ne ha41 hy0 (by simp)) ha41
  have f7 := k2 _ _ (pd_ne ha42 hy0 (by simp)) ha42
  refine lv_iload_n hx hb d_p15m26_5 rfl (lv_at hl 1 rfl) ?_
  refine lv_istore_n (lv' := [(3, .int (nI c9)), (0, .ref y), (1, .int (nI c9)), (2, .int (nI d9))]) hx hb d_p15m26_6 rfl hl (by decide) rfl (fun ls hl => ?_)
  have mo8 : pd_MO G h1 y ad fv (pd_fu iv 43 (nI 0)) tl := pd_MO.of (ts := [20]) hMO (pd_kq.kx (k2) hy0) f3 (fun j hj => Or.inr ⟨fun z => by first | (simp at z; done) | (simp at z; omega), rfl⟩)
  exact lp_Mod_isBelow_7 l G h hMO hC hK hc9 hd9 X hmn (14 + 1) (some c9) 14 ([]) (fv 41) (fv 42) (nI 0) h1 (pd_kx.mono (us := [20, 71, 72]) (pd_kq.kx (k2) hy0) (by simp)) ((pd_MO.ext (fv2 := pd_fu (pd_fu fv 41 (fv 41)) 42 (fv 42)) (iv2 := pd_fu iv 43 ((nI 0))) mo8 (fun j9 hj9 => by by_cases e9 : j9 = 42; subst e9; rfl; by_cases e8 : j9 = 41; subst e8; rfl; simp only [pd_fu, if_neg e9, if_neg e8]) rfl)) (fun t ht => by cases ht; exact hc9) (fun t ht => by cases ht; omega) (⟨rfl, Nat.zero_le _, fun i hi => absurd hi (Nat.not_lt_zero i)⟩) (List.nodup_nil) (fun z hz => absurd hz List.not_mem_nil) (rfl) (by omega) _ _ w ls (lv_sub hl [0, 1, 2, 3] rfl)
