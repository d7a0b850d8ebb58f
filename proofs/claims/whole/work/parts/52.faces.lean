theorem gm_J_len {n : Nat} {od : List Nat} {x : Nat} (hd : od.Nodup) (hl : ∀ y ∈ od, y < n) (hx : x < n) (h : x ∉ od) (hn : n ≤ 14) : od.length ≤ 13 := by
  have h1 : (x :: od).Nodup := List.nodup_cons.mpr ⟨h, hd⟩
  have h2 := nd_len n (x :: od) h1 (fun y hy => by
    rcases List.mem_cons.mp hy with e | e
    · rw [e]; exact hx
    · exact hl y e)
  rw [List.length_cons] at h2
  omega
/-- the stack, its top first, in an array -/
def gm_S (f : Nat → Int32) (st : List Nat) : Prop := ∀ i, i < st.length → f (st.length - 1 - i) = nI (st.getD i 0)
theorem gm_S.push {f : Nat → Int32} {st : List Nat} {a : Nat} (h : gm_S f st) : gm_S (upd f st.length (nI a)) (a :: st) := by
  intro i hi
  rw [List.length_cons] at hi ⊢
  cases i with
  | zero =>
    rw [show st.length + 1 - 1 - 0 = st.length by omega, pk_us]
    rfl
  | succ i =>
    rw [pk_un (by omega), show st.length + 1 - 1 - (i + 1) = st.length - 1 - i by omega, h i (by omega)]
    rfl
theorem gm_S.pop {f : Nat → Int32} {st : List Nat} {a : Nat} (h : gm_S f (a :: st)) : gm_S f st ∧ f st.length = nI a := by
  refine ⟨fun i hi => ?_, ?_⟩
  · have := h (i + 1) (by rw [List.length_cons]; omega)
    rw [List.length_cons, show st.length + 1 - 1 - (i + 1) = st.length - 1 - i by omega] at this
    rw [this]
    rfl
  · have := h 0 (by rw [List.length_cons]; omega)
    rw [List.length_cons, show st.length + 1 - 1 - 0 = st.length by omega] at this
    rw [this]
    rfl
theorem gm_O_app {f : Nat → Int32} {od : List Nat} {x : Nat} (h : ∀ i, i < od.length → f i = nI (od.getD i 0) ∧ od.getD i 0 < 14) (hx : x < 14) : ∀ i, i < (od ++ [x]).length → upd f od.length (nI x) i = nI ((od ++ [x]).getD i 0) ∧ (od ++ [x]).getD i 0 < 14 := by
  intro i hi
  rw [List.length_append] at hi
  by_cases e : i = od.length
  · subst e
    rw [pk_us, tx_app_get2 (Nat.le_refl _), Nat.sub_self]
    exact ⟨rfl, hx⟩
  · have h2 : i < od.length := by simp at hi; omega
    rw [pk_un e, tx_app_get h2]
    exact h i h2
theorem gm_mv43 {ad : Nat → Nat} {iv : Nat → Int32} {tl : Int64} {v : Int32} (h : iv 43 = v) : pd_mv ad (pd_fu iv 43 v) tl = pd_mv ad iv tl := by rw [pd_fu_id h]
theorem d_p15m23_0 : decode prog_15_method_23_code 0 = .ok (.iconst 0, 1) := by decide +kernel
theorem d_p15m23_1 : decode prog_15_method_23_code 1 = .ok (.istore_n 2, 1) := by decide +kernel
theorem d_p15m23_2 : decode prog_15_method_23_code 2 = .ok (.aload_n 0, 1) := by decide +kernel
theorem d_p15m23_3 : decode prog_15_method_23_code 3 = .ok (.getfield 31, 3) := by decide +kernel
theorem d_p15m23_6 : decode prog_15_method_23_code 6 = .ok (.iload_n 1, 1) := by decide +kernel
theorem d_p15m23_7 : decode prog_15_method_23_code 7 = .ok (.iaload, 1) := by decide +kernel
theorem d_p15m23_8 : decode prog_15_method_23_code 8 = .ok (.iconst 1, 1) := by decide +kernel
theorem d_p15m23_9 : decode prog_15_method_23_code 9 = .ok (.isub, 1) := by decide +kernel
theorem d_p15m23_10 : decode prog_15_method_23_code 10 = .ok (.istore_n 3, 1) := by decide +kernel
theorem d_p15m23_11 : decode prog_15_method_23_code 11 = .ok (.iload_n 3, 1) := by decide +kernel
theorem d_p15m23_12 : decode prog_15_method_23_code 12 = .ok (.ifCond .lt 28, 3) := by decide +kernel
theorem d_p15m23_15 : decode prog_15_method_23_code 15 = .ok (.aload_n 0, 1) := by decide +kernel
theorem d_p15m23_16 : decode prog_15_method_23_code 16 = .ok (.getfield 96, 3) := by decide +kernel
theorem d_p15m23_19 : decode prog_15_method_23_code 19 = .ok (.iload_n 2, 1) := by decide +kernel
theorem d_p15m23_20 : decode prog_15_method_23_code 20 = .ok (.aload_n 0, 1) := by decide +kernel
theorem d_p15m23_21 : decode prog_15_method_23_code 21 = .ok (.getfield 28, 3) := by decide +kernel
theorem d_p15m23_24 : decode prog_15_method_23_code 24 = .ok (.iconst 2, 1) := by decide +kernel
theorem d_p15m23_25 : decode prog_15_method_23_code 25 = .ok (.iload_n 1, 1) := by decide +kernel
theorem d_p15m23_26 : decode prog_15_method_23_code 26 = .ok (.imul, 1) := by decide +kernel
theorem d_p15m23_27 : decode prog_15_method_23_code 27 = .ok (.iload_n 3, 1) := by decide +kernel
theorem d_p15m23_28 : decode prog_15_method_23_code 28 = .ok (.iadd, 1) := by decide +kernel
theorem d_p15m23_29 : decode prog_15_method_23_code 29 = .ok (.iaload, 1) := by decide +kernel
theorem d_p15m23_30 : decode prog_15_method_23_code 30 = .ok (.iastore, 1) := by decide +kernel
theorem d_p15m23_31 : decode prog_15_method_23_code 31 = .ok (.iinc 2 1, 3) := by decide +kernel
theorem d_p15m23_34 : decode prog_15_method_23_code 34 = .ok (.iinc 3 (-1), 3) := by decide +kernel
theorem d_p15m23_37 : decode prog_15_method_23_code 37 = .ok (.goto (-26), 3) := by decide +kernel
theorem d_p15m23_40 : decode prog_15_method_23_code 40 = .ok (.iload_n 2, 1) := by decide +kernel
theorem d_p15m23_41 : decode prog_15_method_23_code 41 = .ok (.ifCond .le 88, 3) := by decide +kernel
theorem d_p15m23_44 : decode prog_15_method_23_code 44 = .ok (.iinc 2 (-1), 3) := by decide +kernel
theorem d_p15m23_47 : decode prog_15_method_23_code 47 = .ok (.aload_n 0, 1) := by decide +kernel
theorem d_p15m23_48 : decode prog_15_method_23_code 48 = .ok (.getfield 96, 3) := by decide +kernel
theorem d_p15m23_51 : decode prog_15_method_23_code 51 = .ok (.iload_n 2, 1) := by decide +kernel
theorem d_p15m23_52 : decode prog_15_method_23_code 52 = .ok (.iaload, 1) := by decide +kernel
theorem d_p15m23_53 : decode prog_15_method_23_code 53 = .ok (.istore_n 3, 1) := by decide +kernel
theorem d_p15m23_54 : decode prog_15_method_23_code 54 = .ok (.aload_n 0, 1) := by decide +kernel
theorem d_p15m23_55 : decode prog_15_method_23_code 55 = .ok (.iload_n 3, 1) := by decide +kernel
theorem d_p15m23_56 : decode prog_15_method_23_code 56 = .ok (.invokevirtual 155, 3) := by decide +kernel
theorem d_p15m23_59 : decode prog_15_method_23_code 59 = .ok (.ifCond .eq 6, 3) := by decide +kernel
theorem d_p15m23_62 : decode prog_15_method_23_code 62 = .ok (.goto (-22), 3) := by decide +kernel
theorem d_p15m23_65 : decode prog_15_method_23_code 65 = .ok (.aload_n 0, 1) := by decide +kernel
theorem d_p15m23_66 : decode prog_15_method_23_code 66 = .ok (.getfield 93, 3) := by decide +kernel
theorem d_p15m23_69 : decode prog_15_method_23_code 69 = .ok (.aload_n 0, 1) := by decide +kernel
theorem d_p15m23_70 : decode prog_15_method_23_code 70 = .ok (.getfield 158, 3) := by decide +kernel
theorem d_p15m23_73 : decode prog_15_method_23_code 73 = .ok (.iload_n 3, 1) := by decide +kernel
theorem d_p15m23_74 : decode prog_15_method_23_code 74 = .ok (.iastore, 1) := by decide +kernel
theorem d_p15m23_75 : decode prog_15_method_23_code 75 = .ok (.aload_n 0, 1) := by decide +kernel
theorem d_p15m23_76 : decode prog_15_method_23_code 76 = .ok (.dup, 1) := by decide +kernel
theorem d_p15m23_77 : decode prog_15_method_23_code 77 = .ok (.getfield 158, 3) := by decide +kernel
theorem d_p15m23_80 : decode prog_15_method_23_code 80 = .ok (.iconst 1, 1) := by decide +kernel
theorem d_p15m23_81 : decode prog_15_method_23_code 81 = .ok (.iadd, 1) := by decide +kernel
theorem d_p15m23_82 : decode prog_15_method_23_code 82 = .ok (.putfield 158, 3) := by decide +kernel
theorem d_p15m23_85 : decode prog_15_method_23_code 85 = .ok (.aload_n 0, 1) := by decide +kernel
theorem d_p15m23_86 : decode prog_15_method_23_code 86 = .ok (.getfield 31, 3) := by decide +kernel
theorem d_p15m23_89 : decode prog_15_method_23_code 89 = .ok (.iload_n 3, 1) := by decide +kernel
theorem d_p15m23_90 : decode prog_15_method_23_code 90 = .ok (.iaload, 1) := by decide +kernel
theorem d_p15m23_91 : decode prog_15_method_23_code 91 = .ok (.iconst 1, 1) := by decide +kernel
theorem d_p15m23_92 : decode prog_15_method_23_code 92 = .ok (.isub, 1) := by decide +kernel
theorem d_p15m23_93 : decode prog_15_method_23_code 93 = .ok (.istore 4, 2) := by decide +kernel
theorem d_p15m23_95 : decode prog_15_method_23_code 95 = .ok (.iload 4, 2) := by decide +kernel
theorem d_p15m23_97 : decode prog_15_method_23_code 97 = .ok (.ifCond .lt 29, 3) := by decide +kernel
theorem d_p15m23_100 : decode prog_15_method_23_code 100 = .ok (.aload_n 0, 1) := by decide +kernel
theorem d_p15m23_101 : decode prog_15_method_23_code 101 = .ok (.getfield 96, 3) := by decide +kernel
theorem d_p15m23_104 : decode prog_15_method_23_code 104 = .ok (.iload_n 2, 1) := by decide +kernel
theorem d_p15m23_105 : decode prog_15_method_23_code 105 = .ok (.aload_n 0, 1) := by decide +kernel
theorem d_p15m23_106 : decode prog_15_method_23_code 106 = .ok (.getfield 28, 3) := by decide +kernel
theorem d_p15m23_109 : decode prog_15_method_23_code 109 = .ok (.iconst 2, 1) := by decide +kernel
theorem d_p15m23_110 : decode prog_15_method_23_code 110 = .ok (.iload_n 3, 1) := by decide +kernel
theorem d_p15m23_111 : decode prog_15_method_23_code 111 = .ok (.imul, 1) := by decide +kernel
theorem d_p15m23_112 : decode prog_15_method_23_code 112 = .ok (.iload 4, 2) := by decide +kernel
theorem d_p15m23_114 : decode prog_15_method_23_code 114 = .ok (.iadd, 1) := by decide +kernel
theorem d_p15m23_115 : decode prog_15_method_23_code 115 = .ok (.iaload, 1) := by decide +kernel
theorem d_p15m23_116 : decode prog_15_method_23_code 116 = .ok (.iastore, 1) := by decide +kernel
theorem d_p15m23_117 : decode prog_15_method_23_code 117 = .ok (.iinc 2 1, 3) := by decide +kernel
theorem d_p15m23_120 : decode prog_15_method_23_code 120 = .ok (.iinc 4 (-1), 3) := by decide +kernel
theorem d_p15m23_123 : decode prog_15_method_23_code 123 = .ok (.goto (-28), 3) := by decide +kernel
theorem d_p15m23_126 : decode prog_15_method_23_code 126 = .ok (.goto (-86), 3) := by decide +kernel
theorem d_p15m23_129 : decode prog_15_method_23_code 129 = .ok (.return_, 1) := by decide +kernel
abbrev y_Mod_facesFrom : MethodName := ⟨"PolicyDeskModel", "facesFrom", "(I)V"⟩
theorem ok_Mod_facesFrom : pd_ok y_Mod_facesFrom prog_15_method_23_code 5 none 1 := ⟨mT_1408, mT_21, by decide, by decide +kernel⟩
abbrev rm_Mod_facesFrom : Room := { frames := 1, cells := 0, slots := 0, locals := 22 }
set_option maxHeartbeats 4000000 in
set_option maxRecDepth 100000 in
theorem lp_Mod_facesFrom_40 (l : Launch) (G : pd_G) (h : pd_H) {y : Nat} {ad : Nat → Nat} {fv : Nat → Nat → Int32} {iv : Nat → Int32} {tl : Int64} {n : Nat} {R : Nat → pd_cr} {od : List Nat} {c9 : Nat} (hMO : pd_MO G h y ad fv iv tl) (hC : gm_C fv iv n R) (hK : gm_K n R) (hO : gm_O fv iv od) (hc9 : c9 < n) (hJ : gm_J R (gm_fl (R c9)) od) (hnd : od.Nodup) (hlt : ∀ z ∈ od, z < n) {p : Program} {e : Env} {s : State} {m : MethodId} {below : List Frame} {meth : Method} {c : Code} (X : pd_B p s m [.ref y, .int (nI c9)].toArray meth c G y_Mod_facesFrom.cls prog_15_method_23_code 5 none) (hmn : meth.name = y_Mod_facesFrom.name) :
    ∀ (kk9 : Nat) (st : List Nat) (od2 : List Nat) (fo1 : Nat → Int32) (fo2 : Nat → Int32) (hh : pd_H), (pd_kx [20, 71, 72] h hh) → (pd_MO G hh y ad (pd_fu (pd_fu fv 41 fo1) 42 fo2) (pd_fu iv 43 (nI od2.length)) tl) → (gm_S fo2 st) → (∀ z ∈ st, z < n ∧ (R z).2.1 = true) → (st.length ≤ 2 + 2 * od2.length) → (od2.Nodup) → (∀ z ∈ od2, z < n) → (od2.length ≤ 14) → (∀ i, i < od2.length → fo1 i = nI (od2.getD i 0) ∧ od2.getD i 0 < 14) → (gm_J R st od2) → (st.foldl (gm_G R) od2 = (R c9).2.2.2.2.2.2.foldl al_add od) → 3 * (14 - od2.length) + st.length < kk9 → ∀ (H : Heap) (locs : List Loc), pd_w G s H locs hh → ∀ ls : Array Slot, lv_has ls 5 [(2, .int (nI st.length)), (0, .ref y), (1, .int (nI c9))] → W p l e rm_Mod_facesFrom s m [.ref y, .int (nI c9)].toArray below meth c H locs 0 0 (MQ below (pd_Qv G (fun h1 => pd_kx [20, 71, 72] h h1 ∧ ∃ fo1 fo2 v43, pd_MO G h1 y ad (pd_fu (pd_fu fv 41 fo1) 42 fo2) (pd_fu iv 43 v43) tl ∧ gm_O (pd_fu (pd_fu fv 41 fo1) 42 fo2) (pd_fu iv 43 v43) ((R c9).2.2.2.2.2.2.foldl al_add od))) [.ref y, .int (nI c9)].toArray s rm_Mod_facesFrom.cells rm_Mod_facesFrom.slots (fun q => G.2.1 ≤ q)) (F0 m 40 ls []) := by
  have hx := X.1
  have hb := X.2.1
  have hz_y := hMO.2.1
  have hy0 : h y = some (20, .inr (10, [.ref (ad 0), .ref (ad 1), .ref (ad 2), .int (iv 3), .int (iv 4), .int (iv 5), .ref (ad 6), .ref (ad 7), .ref (ad 8), .ref (ad 9), .ref (ad 10), .ref (ad 11), .int (iv 12), .ref (ad 13), .ref (ad 14), .ref (ad 15), .ref (ad 16), .ref (ad 17), .ref (ad 18), .ref (ad 19), .int (iv 20), .ref (ad 21), .ref (ad 22), .ref (ad 23), .ref (ad 24), .ref (ad 25), .ref (ad 26), .ref (ad 27), .ref (ad 28), .int (iv 29), .ref (ad 30), .ref (ad 31), .int (iv 32), .int (iv 33), .int (iv 34), .int (iv 35), .long tl, .int (iv 37), .int (iv 38), .int (iv 39), .int (iv 40), .ref (ad 41), .ref (ad 42), .int (iv 43)])) := hMO.1
  have ha9 : h (ad 9) = some (39, .inl (.int, 28, .inl (fv 9))) := (hMO.2.2 9 (by decide)).1
  have ha10 : h (ad 10) = some (40, .inl (.int, 14, .inl (fv 10))) := (hMO.2.2 10 (by decide)).1
  have ha41 : h (ad 41) = some (71, .inl (.int, 16, .inl (fv 41))) := (hMO.2.2 41 (by decide)).1
  have ha42 : h (ad 42) = some (72, .inl (.int, 32, .inl (fv 42))) := (hMO.2.2 42 (by decide)).1
  obtain ⟨hiv12, hn2, hn14, hCc⟩ := id hC
  obtain ⟨hiv43, hod, hOo⟩ := id hO
  intro kk9
  induction kk9 with
  | zero => intros; omega
  | succ kk9 ih =>
    intro st od2 fo1 fo2 hh hk2 hMO2 hS9 hst9 hsl9 hnd9 hlt9 hol9 hoo9 hJ9 hv9 hmu H locs w ls hl
    have hz_y := hMO2.2.1
    have hy2 : hh y = some (20, .inr (10, [.ref (ad 0), .ref (ad 1), .ref (ad 2), .int (iv 3), .int (iv 4), .int (iv 5), .ref (ad 6), .ref (ad 7), .ref (ad 8), .ref (ad 9), .ref (ad 10), .ref (ad 11), .int (iv 12), .ref (ad 13), .ref (ad 14), .ref (ad 15), .ref (ad 16), .ref (ad 17), .ref (ad 18), .ref (ad 19), .int (iv 20), .ref (ad 21), .ref (ad 22), .ref (ad 23), .ref (ad 24), .ref (ad 25), .ref (ad 26), .ref (ad 27), .ref (ad 28), .int (iv 29), .ref (ad 30), .ref (ad 31), .int (iv 32), .int (iv 33), .int (iv 34), .int (iv 35), .long tl, .int (iv 37), .int (iv 38), .int (iv 39), .int (iv 40), .ref (ad 41), .ref (ad 42), .int (nI od2.length)])) := hMO2.1
    have ha9 : hh (ad 9) = some (39, .inl (.int, 28, .inl (fv 9))) := (hMO2.2.2 9 (by decide)).1
    have ha10 : hh (ad 10) = some (40, .inl (.int, 14, .inl (fv 10))) := (hMO2.2.2 10 (by decide)).1
    have ha41 : hh (ad 41) = some (71, .inl (.int, 16, .inl (fo1))) := (hMO2.2.2 41 (by decide)).1
    have ha42 : hh (ad 42) = some (72, .inl (.int, 32, .inl (fo2))) := (hMO2.2.2 42 (by decide)).1
    refine lv_iload_n hx hb d_p15m23_40 rfl (lv_at hl 0 rfl) ?_
    refine pd_zle (tgt := 129) hx hb d_p15m23_41 (by decide) (by omega) (fun q1 => ?_) (fun q1 => ?_)
    · -- taken: 129
      exact pd_vret X w ⟨hk2, fo1, fo2, _, hMO2, (by have e9 : st = [] := List.length_eq_zero_iff.mp (by omega); subst e9; rw [← hv9]; exact ⟨rfl, hol9, hoo9⟩)⟩ (by decide) (by decide) d_p15m23_129
    · -- not taken: 44
      obtain ⟨x9, st9, rfl⟩ : ∃ z t, st = z :: t := by cases st with | nil => (exfalso; simp at q1) | cons z t => exact ⟨z, t, rfl⟩
      have hl : lv_has ls 5 [(2, .int (nI (st9.length + 1))), (0, .ref y), (1, .int (nI c9))] := hl
      have hpop := gm_S.pop hS9
      have hx9 := hst9 x9 List.mem_cons_self
      have hsl : st9.length + 1 ≤ 2 + 2 * od2.length := hsl9
      refine pd_idec (k := 0) (lv' := [(2, .int (nI (st9.length + 1 - 1))), (0, .ref y), (1, .int (nI c9))]) hx hb d_p15m23_44 (by omega) hl rfl (by decide) rfl (fun ls hl => ?_)
      have hl : lv_has ls 5 [(2, .int (nI st9.length)), (0, .ref y), (1, .int (nI c9))] := hl
      refine lv_aload_n hx hb d_p15m23_47 rfl (lv_at hl 1 rfl) ?_
      refine pd_get X w hy2 rfl 42 (by decide) mT_1181 rfl rfl d_p15m23_48 ?_
      refine lv_iload_n hx hb d_p15m23_51 rfl (lv_at hl 0 rfl) ?_
      refine pd_iald X w ha42 (by omega) (by omega) d_p15m23_52 ?_
      refine pd_top (v' := .int (nI x9)) (congrArg Value.int hpop.2) ?_
      refine lv_istore_n (lv' := [(3, .int (nI x9)), (2, .int (nI st9.length)), (0, .ref y), (1, .int (nI c9))]) hx hb d_p15m23_53 rfl hl (by decide) rfl (fun ls hl => ?_)
      refine lv_aload_n hx hb d_p15m23_54 rfl (lv_at hl 2 rfl) ?_
      refine lv_iload_n hx hb d_p15m23_55 rfl (lv_at hl 0 rfl) ?_
      refine pd_cV (a := y) (As := [.int (nI x9)]) (rest := []) X w hy2 rfl (c_Mod_isOrdered l G hh (od := od2) (ad := ad) (fv := pd_fu (pd_fu fv 41 fo1) 42 fo2) (iv := pd_fu iv 43 (nI od2.length)) (tl := tl) hMO2 (⟨rfl, hol9, hoo9⟩ : gm_O (pd_fu (pd_fu fv 41 fo1) 42 fo2) (pd_fu iv 43 (nI od2.length)) od2) (by omega)) ok_Mod_isOrdered ⟨mT_1403, sT_38⟩ mT_1401 ⟨by decide, by decide⟩ rfl hl.1 rfl (Nat.le_of_ble_eq_true rfl) d_p15m23_56 ⟨by decide, by decide⟩ (fun r2 h3 H locs hp4 w => ?_)
      refine W.widen (k := 0) (n := 0) (by decide) (by decide) ?_
      obtain ⟨e5, rfl⟩ := hp4
      refine pd_beq (tgt := 65) hx hb d_p15m23_59 (by decide) (fun q6 => ?_) (fun q6 => ?_)
      · -- taken: 65
        have hnin : x9 ∉ od2 := of_decide_eq_false (e5.symm.trans q6)
        have hod13 := gm_J_len hnd9 hlt9 hx9.1 hnin hn14
        have hor := gm_J_order hK hx9.1 hJ9 hnin
        refine lv_aload_n hx hb d_p15m23_65 rfl (lv_at hl 2 rfl) ?_
        refine pd_get X w hy2 rfl 41 (by decide) mT_1180 rfl rfl d_p15m23_66 ?_
        refine lv_aload_n hx hb d_p15m23_69 rfl (lv_at hl 2 rfl) ?_
        refine pd_get X w hy2 rfl 43 (by decide) mT_1182 rfl rfl d_p15m23_70 ?_
        refine lv_iload_n hx hb d_p15m23_73 rfl (lv_at hl 0 rfl) ?_
        refine pd_iast X w ha41 (hMO.2.2 41 (by decide)).2 (by omega) (by omega) d_p15m23_74 (fun H locs w => ?_)
        have w : pd_w G s H locs (pd_up hh (ad 41) (71, .inl (.int, 16, .inl (upd fo1 od2.length (nI x9))))) := w
        obtain ⟨h7, u10⟩ : ∃ z, z = pd_up hh (ad 41) (71, .inl (.int, 16, .inl (upd fo1 od2.length (nI x9)))) := ⟨_, rfl⟩
        rw [← u10] at w
        have k8 : pd_kq (ad 41) hh h7 := by rw [u10]; exact pd_up_kq
        have f9 : h7 (ad 41) = some (71, .inl (.int, 16, .inl (upd fo1 od2.length (nI x9)))) := by rw [u10]; exact pd_up_s _ _ _
        have f11 := k8 _ _ (pd_ne hy2 ha41 (by simp)) hy2
        have f12 := k8 _ _ (pd_ne ha9 ha41 (by simp)) ha9
        have f13 := k8 _ _ (pd_ne ha10 ha41 (by simp)) ha10
        have f14 := k8 _ _ (pd_ne ha42 ha41 (by simp)) ha42
        refine lv_aload_n hx hb d_p15m23_75 rfl (lv_at hl 2 rfl) ?_
        refine lv_dup hx hb d_p15m23_76 rfl ?_
        refine pd_get X w f11 rfl 43 (by decide) mT_1182 rfl rfl d_p15m23_77 ?_
        refine lv_iconst (v := nI 1) hx hb d_p15m23_80 (by decide) ?_
        refine pd_iadd hx hb d_p15m23_81 ?_
        refine pd_put (ty := .int) X w f11 hz_y rfl 43 (by decide) mT_1182 rfl rfl (by decide +kernel) rfl rfl (Nat.le_of_ble_eq_true rfl) d_p15m23_82 (fun H locs w => ?_)
        have w : pd_w G s H locs (pd_up h7 y (20, .inr (10, [.ref (ad 0), .ref (ad 1), .ref (ad 2), .int (iv 3), .int (iv 4), .int (iv 5), .ref (ad 6), .ref (ad 7), .ref (ad 8), .ref (ad 9), .ref (ad 10), .ref (ad 11), .int (iv 12), .ref (ad 13), .ref (ad 14), .ref (ad 15), .ref (ad 16), .ref (ad 17), .ref (ad 18), .ref (ad 19), .int (iv 20), .ref (ad 21), .ref (ad 22), .ref (ad 23), .ref (ad 24), .ref (ad 25), .ref (ad 26), .ref (ad 27), .ref (ad 28), .int (iv 29), .ref (ad 30), .ref (ad 31), .int (iv 32), .int (iv 33), .int (iv 34), .int (iv 35), .long tl, .int (iv 37), .int (iv 38), .int (iv 39), .int (iv 40), .ref (ad 41), .ref (ad 42), .int (nI (od2.length + 1))]))) := w
        obtain ⟨h15, u18⟩ : ∃ z, z = pd_up h7 y (20, .inr (10, [.ref (ad 0), .ref (ad 1), .ref (ad 2), .int (iv 3), .int (iv 4), .int (iv 5), .ref (ad 6), .ref (ad 7), .ref (ad 8), .ref (ad 9), .ref (ad 10), .ref (ad 11), .int (iv 12), .ref (ad 13), .ref (ad 14), .ref (ad 15), .ref (ad 16), .ref (ad 17), .ref (ad 18), .ref (ad 19), .int (iv 20), .ref (ad 21), .ref (ad 22), .ref (ad 23), .ref (ad 24), .ref (ad 25), .ref (ad 26), .ref (ad 27), .ref (ad 28), .int (iv 29), .ref (ad 30), .ref (ad 31), .int (iv 32), .int (iv 33), .int (iv 34), .int (iv 35), .long tl, .int (iv 37), .int (iv 38), .int (iv 39), .int (iv 40), .ref (ad 41), .ref (ad 42), .int (nI (od2.length + 1))])) := ⟨_, rfl⟩
        rw [← u18] at w
        have k16 : pd_kq y h7 h15 := by rw [u18]; exact pd_up_kq
        have f17 : h15 y = some (20, .inr (10, [.ref (ad 0), .ref (ad 1), .ref (ad 2), .int (iv 3), .int (iv 4), .int (iv 5), .ref (ad 6), .ref (ad 7), .ref (ad 8), .ref (ad 9), .ref (ad 10), .ref (ad 11), .int (iv 12), .ref (ad 13), .ref (ad 14), .ref (ad 15), .ref (ad 16), .ref (ad 17), .ref (ad 18), .ref (ad 19), .int (iv 20), .ref (ad 21), .ref (ad 22), .ref (ad 23), .ref (ad 24), .ref (ad 25), .ref (ad 26), .ref (ad 27), .ref (ad 28), .int (iv 29), .ref (ad 30), .ref (ad 31), .int (iv 32), .int (iv 33), .int (iv 34), .int (iv 35), .long tl, .int (iv 37), .int (iv 38), .int (iv 39), .int (iv 40), .ref (ad 41), .ref (ad 42), .int (nI (od2.length + 1))])) := by rw [u18]; exact pd_up_s _ _ _
        have f19 := k16 _ _ (pd_ne f12 f11 (by simp)) f12
        have f20 := k16 _ _ (pd_ne f13 f11 (by simp)) f13
        have f21 := k16 _ _ (pd_ne f14 f11 (by simp)) f14
        have f22 := k16 _ _ (pd_ne f9 f11 (by simp)) f9
        refine lv_aload_n hx hb d_p15m23_85 rfl (lv_at hl 2 rfl) ?_
        refine pd_get X w f17 rfl 10 (by decide) mT_1149 rfl rfl d_p15m23_86 ?_
        refine lv_iload_n hx hb d_p15m23_89 rfl (lv_at hl 0 rfl) ?_
        refine pd_iald X w f20 (by omega) (by omega) d_p15m23_90 ?_
        obtain ⟨rc1, rc2, rc3, rc4, rc5, rc6, rc7, rc8, rc9, rc10⟩ := hCc x9 (by omega)
        have hKc := (hK x9 (by omega)).2.1
        have hf2 := gm_fl_le (R x9)
        rcases hfl23 : gm_fl (R x9) with _ | ⟨a9, _ | ⟨b9, _ | ⟨c9z, t9z⟩⟩⟩
        · -- 0 faces
          rw [hfl23] at rc7 rc8 hKc
          refine pd_top (v' := .int (nI 0)) (congrArg Value.int rc7) ?_
          refine lv_iconst (v := nI 1) hx hb d_p15m23_91 (by decide) ?_
          refine lv_isub hx hb d_p15m23_92 ?_
          refine pd_top (v' := .int (-1)) (by decide) ?_
          refine lv_istore (lv' := [(4, .int (-1)), (3, .int (nI x9)), (2, .int (nI st9.length)), (0, .ref y), (1, .int (nI c9))]) hx hb d_p15m23_93 hl (by decide) rfl (fun ls hl => ?_)
          refine lv_iload hx hb d_p15m23_95 (lv_at hl 0 rfl) ?_
          refine lv_if_lt (tgt := 126) hx hb d_p15m23_97 (by decide) (fun _ => ?_) (fun q => absurd (by decide) q)
          refine lv_goto (tgt := 40) hx hb d_p15m23_126 (by decide) ?_
          have mo25 : pd_MO G h15 y ad (pd_fu (pd_fu (pd_fu fv 41 fo1) 42 fo2) 41 (upd fo1 od2.length (nI x9))) (pd_fu (pd_fu iv 43 (nI od2.length)) 43 (nI (od2.length + 1))) tl := pd_MO.of (ts := [71, 20]) hMO2 (pd_kx.tr (pd_kx.mono (us := [71, 20]) (pd_kq.kx (k8) ha41) (by simp)) (pd_kx.mono (us := [71, 20]) (pd_kq.kx (k16) f11) (by simp))) f17 (fun j hj => if e41 : j = 41 then by subst e41; exact Or.inl f22 else Or.inr ⟨fun z => by first | (simp at z; done) | (simp at z; omega), by rw [pd_fu_n e41]⟩)
          exact ih st9 (od2 ++ [x9]) (upd fo1 od2.length (nI x9)) fo2 h15 (hk2.tr (pd_kx.mono (us := [20, 71, 72]) (pd_kx.tr (pd_kx.mono (us := [71, 20]) (pd_kq.kx (k8) ha41) (by simp)) (pd_kx.mono (us := [71, 20]) (pd_kq.kx (k16) f11) (by simp))) (by simp))) ((pd_MO.ext (fv2 := pd_fu (pd_fu fv 41 (upd fo1 od2.length (nI x9))) 42 (fo2)) (iv2 := pd_fu iv 43 (nI (od2 ++ [x9]).length)) mo25 (fun j9 hj9 => by by_cases e9 : j9 = 42; subst e9; rfl; by_cases e8 : j9 = 41; subst e8; rfl; simp only [pd_fu, if_neg e9, if_neg e8]) (by rw [List.length_append]; rfl))) (hpop.1) ((fun z hz => hst9 z (List.mem_cons_of_mem _ hz))) (by simp only [List.length_cons, List.length_nil, List.length_append]; omega) ((al_out hnin) ▸ al_nd hnd9) (fun z hz => (List.mem_append.mp hz).elim (hlt9 z) (fun e9 => by rw [List.mem_singleton.mp e9]; exact hx9.1)) (by rw [List.length_append]; simp; omega) (gm_O_app hoo9 (by omega)) (by have z := hor.1; rw [hfl23] at z; exact z) (by have z := hor.2; rw [hfl23] at z; rw [← hv9, show List.foldl (gm_G R) od2 (x9 :: st9) = List.foldl (gm_G R) (gm_G R od2 x9) st9 from rfl, z]; rfl) (by have hmu9 : 3 * (14 - od2.length) + (st9.length + 1) < kk9 + 1 := hmu; (try simp only [List.length_append, List.length_cons, List.length_nil]); omega) _ _ w ls (lv_sub hl [2, 3, 4] rfl)
        · -- 1 faces
          rw [hfl23] at rc7 rc8 hKc
          have hka9 := hKc a9 (by simp)
          have hva9 := rc8 0 (by simp)
          refine pd_top (v' := .int (nI 1)) (congrArg Value.int rc7) ?_
          refine lv_iconst (v := nI 1) hx hb d_p15m23_91 (by decide) ?_
          refine pd_isub hx hb d_p15m23_92 (by omega) ?_
          refine lv_istore (lv' := [(4, .int (nI 0)), (3, .int (nI x9)), (2, .int (nI st9.length)), (0, .ref y), (1, .int (nI c9))]) hx hb d_p15m23_93 hl (by decide) rfl (fun ls hl => ?_)
          refine lv_iload hx hb d_p15m23_95 (lv_at hl 0 rfl) ?_
          refine pd_zlt (tgt := 126) hx hb d_p15m23_97 (by decide) (by omega) ?_
          refine lv_aload_n hx hb d_p15m23_100 rfl (lv_at hl 3 rfl) ?_
          refine pd_get X w f17 rfl 42 (by decide) mT_1181 rfl rfl d_p15m23_101 ?_
          refine lv_iload_n hx hb d_p15m23_104 rfl (lv_at hl 2 rfl) ?_
          refine lv_aload_n hx hb d_p15m23_105 rfl (lv_at hl 3 rfl) ?_
          refine pd_get X w f17 rfl 9 (by decide) mT_1148 rfl rfl d_p15m23_106 ?_
          refine lv_iconst (v := nI 2) hx hb d_p15m23_109 (by decide) ?_
          refine lv_iload_n hx hb d_p15m23_110 rfl (lv_at hl 1 rfl) ?_
          refine pd_imul hx hb d_p15m23_111 ?_
          refine lv_iload hx hb d_p15m23_112 (lv_at hl 0 rfl) ?_
          refine pd_iadd hx hb d_p15m23_114 ?_
          refine pd_iald X w f19 (by omega) (by omega) d_p15m23_115 ?_
          refine pd_top (v' := .int (nI a9)) (congrArg Value.int hva9) ?_
          refine pd_iast X w f21 (hMO.2.2 42 (by decide)).2 (by omega) (by omega) d_p15m23_116 (fun H locs w => ?_)
          have w : pd_w G s H locs (pd_up h15 (ad 42) (72, .inl (.int, 32, .inl (upd fo2 st9.length (nI a9))))) := w
          obtain ⟨h27, u30⟩ : ∃ z, z = pd_up h15 (ad 42) (72, .inl (.int, 32, .inl (upd fo2 st9.length (nI a9)))) := ⟨_, rfl⟩
          rw [← u30] at w
          have k28 : pd_kq (ad 42) h15 h27 := by rw [u30]; exact pd_up_kq
          have f29 : h27 (ad 42) = some (72, .inl (.int, 32, .inl (upd fo2 st9.length (nI a9)))) := by rw [u30]; exact pd_up_s _ _ _
          have f31 := k28 _ _ (pd_ne f17 f21 (by simp)) f17
          have f32 := k28 _ _ (pd_ne f19 f21 (by simp)) f19
          have f33 := k28 _ _ (pd_ne f20 f21 (by simp)) f20
          have f34 := k28 _ _ (pd_ne f22 f21 (by simp)) f22
          refine pd_iinc (k := 2) (d := 1) (lv' := [(2, .int (nI (st9.length + 1))), (4, .int (nI 0)), (3, .int (nI x9)), (0, .ref y), (1, .int (nI c9))]) hx hb d_p15m23_117 (by decide) hl rfl (by decide) rfl (fun ls hl => ?_)
          refine lv_iinc (k := 1) (x := nI 0) (v := -1) (lv' := [(4, .int (-1)), (2, .int (nI (st9.length + 1))), (3, .int (nI x9)), (0, .ref y), (1, .int (nI c9))]) hx hb d_p15m23_120 hl rfl (by decide) (by decide) rfl (fun ls hl => ?_)
          refine lv_goto (tgt := 95) hx hb d_p15m23_123 (by decide) ?_
          refine lv_iload hx hb d_p15m23_95 (lv_at hl 0 rfl) ?_
          refine lv_if_lt (tgt := 126) hx hb d_p15m23_97 (by decide) (fun _ => ?_) (fun q => absurd (by decide) q)
          refine lv_goto (tgt := 40) hx hb d_p15m23_126 (by decide) ?_
          have mo36 : pd_MO G h27 y ad (pd_fu (pd_fu (pd_fu (pd_fu fv 41 fo1) 42 fo2) 41 (upd fo1 od2.length (nI x9))) 42 (upd fo2 st9.length (nI a9))) (pd_fu (pd_fu iv 43 (nI od2.length)) 43 (nI (od2.length + 1))) tl := pd_MO.of (ts := [71, 20, 72]) hMO2 (pd_kx.tr (pd_kx.mono (us := [71, 20, 72]) (pd_kx.tr (pd_kx.mono (us := [71, 20]) (pd_kq.kx (k8) ha41) (by simp)) (pd_kx.mono (us := [71, 20]) (pd_kq.kx (k16) f11) (by simp))) (by simp)) (pd_kx.mono (us := [71, 20, 72]) (pd_kq.kx (k28) f21) (by simp))) f31 (fun j hj => if e41 : j = 41 then by subst e41; exact Or.inl f34 else if e42 : j = 42 then by subst e42; exact Or.inl f29 else Or.inr ⟨fun z => by first | (simp at z; done) | (simp at z; omega), by rw [pd_fu_n e42, pd_fu_n e41]⟩)
          exact ih (a9 :: st9) (od2 ++ [x9]) (upd fo1 od2.length (nI x9)) (upd fo2 st9.length (nI a9)) h27 (hk2.tr (pd_kx.mono (us := [20, 71, 72]) (pd_kx.tr (pd_kx.mono (us := [71, 20, 72]) (pd_kx.tr (pd_kx.mono (us := [71, 20]) (pd_kq.kx (k8) ha41) (by simp)) (pd_kx.mono (us := [71, 20]) (pd_kq.kx (k16) f11) (by simp))) (by simp)) (pd_kx.mono (us := [71, 20, 72]) (pd_kq.kx (k28) f21) (by simp))) (by simp))) ((pd_MO.ext (fv2 := pd_fu (pd_fu fv 41 (upd fo1 od2.length (nI x9))) 42 (upd fo2 st9.length (nI a9))) (iv2 := pd_fu iv 43 (nI (od2 ++ [x9]).length)) mo36 (fun j9 hj9 => by by_cases e9 : j9 = 42; subst e9; rfl; by_cases e8 : j9 = 41; subst e8; rfl; simp only [pd_fu, if_neg e9, if_neg e8]) (by rw [List.length_append]; rfl))) (gm_S.push (hpop.1)) ((fun z hz => (List.mem_cons.mp hz).elim (fun e9 => by rw [e9]; exact ⟨by omega, hka9.2⟩) (fun y9 => (fun z hz => hst9 z (List.mem_cons_of_mem _ hz)) z y9))) (by simp only [List.length_cons, List.length_nil, List.length_append]; omega) ((al_out hnin) ▸ al_nd hnd9) (fun z hz => (List.mem_append.mp hz).elim (hlt9 z) (fun e9 => by rw [List.mem_singleton.mp e9]; exact hx9.1)) (by rw [List.length_append]; simp; omega) (gm_O_app hoo9 (by omega)) (by have z := hor.1; rw [hfl23] at z; exact z) (by have z := hor.2; rw [hfl23] at z; rw [← hv9, show List.foldl (gm_G R) od2 (x9 :: st9) = List.foldl (gm_G R) (gm_G R od2 x9) st9 from rfl, z]; rfl) (by have hmu9 : 3 * (14 - od2.length) + (st9.length + 1) < kk9 + 1 := hmu; (try simp only [List.length_append, List.length_cons, List.length_nil]); omega) _ _ w ls (lv_sub hl [1, 3, 4] rfl)
        · -- 2 faces
          rw [hfl23] at rc7 rc8 hKc
          have hka9 := hKc a9 (by simp)
          have hva9 := rc8 0 (by simp)
          have hkb9 := hKc b9 (by simp)
          have hvb9 := rc8 1 (by simp)
          refine pd_top (v' := .int (nI 2)) (congrArg Value.int rc7) ?_
          refine lv_iconst (v := nI 1) hx hb d_p15m23_91 (by decide) ?_
          refine pd_isub hx hb d_p15m23_92 (by omega) ?_
          refine lv_istore (lv' := [(4, .int (nI 1)), (3, .int (nI x9)), (2, .int (nI st9.length)), (0, .ref y), (1, .int (nI c9))]) hx hb d_p15m23_93 hl (by decide) rfl (fun ls hl => ?_)
          refine lv_iload hx hb d_p15m23_95 (lv_at hl 0 rfl) ?_
          refine pd_zlt (tgt := 126) hx hb d_p15m23_97 (by decide) (by omega) ?_
          refine lv_aload_n hx hb d_p15m23_100 rfl (lv_at hl 3 rfl) ?_
          refine pd_get X w f17 rfl 42 (by decide) mT_1181 rfl rfl d_p15m23_101 ?_
          refine lv_iload_n hx hb d_p15m23_104 rfl (lv_at hl 2 rfl) ?_
          refine lv_aload_n hx hb d_p15m23_105 rfl (lv_at hl 3 rfl) ?_
          refine pd_get X w f17 rfl 9 (by decide) mT_1148 rfl rfl d_p15m23_106 ?_
          refine lv_iconst (v := nI 2) hx hb d_p15m23_109 (by decide) ?_
          refine lv_iload_n hx hb d_p15m23_110 rfl (lv_at hl 1 rfl) ?_
          refine pd_imul hx hb d_p15m23_111 ?_
          refine lv_iload hx hb d_p15m23_112 (lv_at hl 0 rfl) ?_
          refine pd_iadd hx hb d_p15m23_114 ?_
          refine pd_iald X w f19 (by omega) (by omega) d_p15m23_115 ?_
          refine pd_top (v' := .int (nI b9)) (congrArg Value.int hvb9) ?_
          refine pd_iast X w f21 (hMO.2.2 42 (by decide)).2 (by omega) (by omega) d_p15m23_116 (fun H locs w => ?_)
          have w : pd_w G s H locs (pd_up h15 (ad 42) (72, .inl (.int, 32, .inl (upd fo2 st9.length (nI b9))))) := w
          obtain ⟨h38, u41⟩ : ∃ z, z = pd_up h15 (ad 42) (72, .inl (.int, 32, .inl (upd fo2 st9.length (nI b9)))) := ⟨_, rfl⟩
          rw [← u41] at w
          have k39 : pd_kq (ad 42) h15 h38 := by rw [u41]; exact pd_up_kq
          have f40 : h38 (ad 42) = some (72, .inl (.int, 32, .inl (upd fo2 st9.length (nI b9)))) := by rw [u41]; exact pd_up_s _ _ _
          have f42 := k39 _ _ (pd_ne f17 f21 (by simp)) f17
          have f43 := k39 _ _ (pd_ne f19 f21 (by simp)) f19
          have f44 := k39 _ _ (pd_ne f20 f21 (by simp)) f20
          have f45 := k39 _ _ (pd_ne f22 f21 (by simp)) f22
          refine pd_iinc (k := 2) (d := 1) (lv' := [(2, .int (nI (st9.length + 1))), (4, .int (nI 1)), (3, .int (nI x9)), (0, .ref y), (1, .int (nI c9))]) hx hb d_p15m23_117 (by decide) hl rfl (by decide) rfl (fun ls hl => ?_)
          refine pd_idec (k := 1) (lv' := [(4, .int (nI 0)), (2, .int (nI (st9.length + 1))), (3, .int (nI x9)), (0, .ref y), (1, .int (nI c9))]) hx hb d_p15m23_120 (by omega) hl rfl (by decide) rfl (fun ls hl => ?_)
          refine lv_goto (tgt := 95) hx hb d_p15m23_123 (by decide) ?_
          refine lv_iload hx hb d_p15m23_95 (lv_at hl 0 rfl) ?_
          refine pd_zlt (tgt := 126) hx hb d_p15m23_97 (by decide) (by omega) ?_
          refine lv_aload_n hx hb d_p15m23_100 rfl (lv_at hl 3 rfl) ?_
          refine pd_get X w f42 rfl 42 (by decide) mT_1181 rfl rfl d_p15m23_101 ?_
          refine lv_iload_n hx hb d_p15m23_104 rfl (lv_at hl 1 rfl) ?_
          refine lv_aload_n hx hb d_p15m23_105 rfl (lv_at hl 3 rfl) ?_
          refine pd_get X w f42 rfl 9 (by decide) mT_1148 rfl rfl d_p15m23_106 ?_
          refine lv_iconst (v := nI 2) hx hb d_p15m23_109 (by decide) ?_
          refine lv_iload_n hx hb d_p15m23_110 rfl (lv_at hl 2 rfl) ?_
          refine pd_imul hx hb d_p15m23_111 ?_
          refine lv_iload hx hb d_p15m23_112 (lv_at hl 0 rfl) ?_
          refine pd_iadd hx hb d_p15m23_114 ?_
          refine pd_iald X w f43 (by omega) (by omega) d_p15m23_115 ?_
          refine pd_top (v' := .int (nI a9)) (congrArg Value.int hva9) ?_
          refine pd_iast X w f40 (hMO.2.2 42 (by decide)).2 (by omega) (by omega) d_p15m23_116 (fun H locs w => ?_)
          have w : pd_w G s H locs (pd_up h38 (ad 42) (72, .inl (.int, 32, .inl (upd (upd fo2 st9.length (nI b9)) (st9.length + 1) (nI a9))))) := w
          obtain ⟨h47, u50⟩ : ∃ z, z = pd_up h38 (ad 42) (72, .inl (.int, 32, .inl (upd (upd fo2 st9.length (nI b9)) (st9.length + 1) (nI a9)))) := ⟨_, rfl⟩
          rw [← u50] at w
          have k48 : pd_kq (ad 42) h38 h47 := by rw [u50]; exact pd_up_kq
          have f49 : h47 (ad 42) = some (72, .inl (.int, 32, .inl (upd (upd fo2 st9.length (nI b9)) (st9.length + 1) (nI a9)))) := by rw [u50]; exact pd_up_s _ _ _
          have f51 := k48 _ _ (pd_ne f42 f40 (by simp)) f42
          have f52 := k48 _ _ (pd_ne f43 f40 (by simp)) f43
          have f53 := k48 _ _ (pd_ne f44 f40 (by simp)) f44
          have f54 := k48 _ _ (pd_ne f45 f40 (by simp)) f45
          refine pd_iinc (k := 1) (d := 1) (lv' := [(2, .int (nI (st9.length + 1 + 1))), (4, .int (nI 0)), (3, .int (nI x9)), (0, .ref y), (1, .int (nI c9))]) hx hb d_p15m23_117 (by decide) hl rfl (by decide) rfl (fun ls hl => ?_)
          refine lv_iinc (k := 1) (x := nI 0) (v := -1) (lv' := [(4, .int (-1)), (2, .int (nI (st9.length + 1 + 1))), (3, .int (nI x9)), (0, .ref y), (1, .int (nI c9))]) hx hb d_p15m23_120 hl rfl (by decide) (by decide) rfl (fun ls hl => ?_)
          refine lv_goto (tgt := 95) hx hb d_p15m23_123 (by decide) ?_
          refine lv_iload hx hb d_p15m23_95 (lv_at hl 0 rfl) ?_
          refine lv_if_lt (tgt := 126) hx hb d_p15m23_97 (by decide) (fun _ => ?_) (fun q => absurd (by decide) q)
          refine lv_goto (tgt := 40) hx hb d_p15m23_126 (by decide) ?_
          have mo56 : pd_MO G h47 y ad (pd_fu (pd_fu (pd_fu (pd_fu fv 41 fo1) 42 fo2) 41 (upd fo1 od2.length (nI x9))) 42 (upd (upd fo2 st9.length (nI b9)) (st9.length + 1) (nI a9))) (pd_fu (pd_fu iv 43 (nI od2.length)) 43 (nI (od2.length + 1))) tl := pd_MO.of (ts := [71, 20, 72]) hMO2 (pd_kx.tr (pd_kx.tr (pd_kx.mono (us := [71, 20, 72]) (pd_kx.tr (pd_kx.mono (us := [71, 20]) (pd_kq.kx (k8) ha41) (by simp)) (pd_kx.mono (us := [71, 20]) (pd_kq.kx (k16) f11) (by simp))) (by simp)) (pd_kx.mono (us := [71, 20, 72]) (pd_kq.kx (k39) f21) (by simp))) (pd_kx.mono (us := [71, 20, 72]) (pd_kq.kx (k48) f40) (by simp))) f51 (fun j hj => if e41 : j = 41 then by subst e41; exact Or.inl f54 else if e42 : j = 42 then by subst e42; exact Or.inl f49 else Or.inr ⟨fun z => by first | (simp at z; done) | (simp at z; omega), by rw [pd_fu_n e42, pd_fu_n e41]⟩)
          exact ih (a9 :: b9 :: st9) (od2 ++ [x9]) (upd fo1 od2.length (nI x9)) (upd (upd fo2 st9.length (nI b9)) (st9.length + 1) (nI a9)) h47 (hk2.tr (pd_kx.mono (us := [20, 71, 72]) (pd_kx.tr (pd_kx.tr (pd_kx.mono (us := [71, 20, 72]) (pd_kx.tr (pd_kx.mono (us := [71, 20]) (pd_kq.kx (k8) ha41) (by simp)) (pd_kx.mono (us := [71, 20]) (pd_kq.kx (k16) f11) (by simp))) (by simp)) (pd_kx.mono (us := [71, 20, 72]) (pd_kq.kx (k39) f21) (by simp))) (pd_kx.mono (us := [71, 20, 72]) (pd_kq.kx (k48) f40) (by simp))) (by simp))) ((pd_MO.ext (fv2 := pd_fu (pd_fu fv 41 (upd fo1 od2.length (nI x9))) 42 (upd (upd fo2 st9.length (nI b9)) (st9.length + 1) (nI a9))) (iv2 := pd_fu iv 43 (nI (od2 ++ [x9]).length)) mo56 (fun j9 hj9 => by by_cases e9 : j9 = 42; subst e9; rfl; by_cases e8 : j9 = 41; subst e8; rfl; simp only [pd_fu, if_neg e9, if_neg e8]) (by rw [List.length_append]; rfl))) (gm_S.push (gm_S.push (hpop.1))) ((fun z hz => (List.mem_cons.mp hz).elim (fun e9 => by rw [e9]; exact ⟨by omega, hka9.2⟩) (fun y9 => (fun z hz => (List.mem_cons.mp hz).elim (fun e9 => by rw [e9]; exact ⟨by omega, hkb9.2⟩) (fun y9 => (fun z hz => hst9 z (List.mem_cons_of_mem _ hz)) z y9)) z y9))) (by simp only [List.length_cons, List.length_nil, List.length_append]; omega) ((al_out hnin) ▸ al_nd hnd9) (fun z hz => (List.mem_append.mp hz).elim (hlt9 z) (fun e9 => by rw [List.mem_singleton.mp e9]; exact hx9.1)) (by rw [List.length_append]; simp; omega) (gm_O_app hoo9 (by omega)) (by have z := hor.1; rw [hfl23] at z; exact z) (by have z := hor.2; rw [hfl23] at z; rw [← hv9, show List.foldl (gm_G R) od2 (x9 :: st9) = List.foldl (gm_G R) (gm_G R od2 x9) st9 from rfl, z]; rfl) (by have hmu9 : 3 * (14 - od2.length) + (st9.length + 1) < kk9 + 1 := hmu; (try simp only [List.length_append, List.length_cons, List.length_nil]); omega) _ _ w ls (lv_sub hl [1, 3, 4] rfl)
        · -- three
          exfalso
          rw [hfl23] at hf2
          simp at hf2
      · -- not taken: 62
        have hin9 : x9 ∈ od2 := of_decide_eq_true (e5.symm.trans q6)
        refine lv_goto (tgt := 40) hx hb d_p15m23_62 (by decide) ?_
        exact ih st9 od2 fo1 fo2 hh (hk2) (hMO2) (hpop.1) (fun z hz => hst9 z (List.mem_cons_of_mem _ hz)) (by omega) (hnd9) (hlt9) (hol9) (hoo9) ((gm_J_skip hJ9 hin9 hx9.2).1) (by rw [← hv9, List.foldl_cons, (gm_J_skip hJ9 hin9 hx9.2).2]) (by have hmu9 : 3 * (14 - od2.length) + (st9.length + 1) < kk9 + 1 := hmu; (try simp only [List.length_append, List.length_cons, List.length_nil]); omega) _ _ w ls (lv_sub hl [1, 2, 3] rfl)
set_option maxHeartbeats 4000000 in
set_option maxRecDepth 100000 in
theorem c_Mod_facesFrom (l : Launch) (G : pd_G) (h : pd_H) {y : Nat} {ad : Nat → Nat} {fv : Nat → Nat → Int32} {iv : Nat → Int32} {tl : Int64} {n : Nat} {R : Nat → pd_cr} {od : List Nat} {c9 : Nat} (hMO : pd_MO G h y ad fv iv tl) (hC : gm_C fv iv n R) (hK : gm_K n R) (hO : gm_O fv iv od) (hc9 : c9 < n) (hJ : gm_J R (gm_fl (R c9)) od) (hnd : od.Nodup) (hlt : ∀ z ∈ od, z < n) : pd_Mv l y_Mod_facesFrom prog_15_method_23_code 5 rm_Mod_facesFrom G h [.ref y, .int (nI c9)] (fun h1 => pd_kx [20, 71, 72] h h1 ∧ ∃ fo1 fo2 v43, pd_MO G h1 y ad (pd_fu (pd_fu fv 41 fo1) 42 fo2) (pd_fu iv 43 v43) tl ∧ gm_O (pd_fu (pd_fu fv 41 fo1) 42 fo2) (pd_fu iv 43 v43) ((R c9).2.2.2.2.2.2.foldl al_add od)) := by
  refine pd_Mv.of (by decide) (Nat.le_of_ble_eq_true rfl) ?_
  intro p e s m below meth c X hmn w ls hl
  have hx := X.1
  have hb := X.2.1
  have hl : lv_has ls 5 [(0, .ref y), (1, .int (nI c9))] := hl
  have hz_y := hMO.2.1
  have hy0 : h y = some (20, .inr (10, [.ref (ad 0), .ref (ad 1), .ref (ad 2), .int (iv 3), .int (iv 4), .int (iv 5), .ref (ad 6), .ref (ad 7), .ref (ad 8), .ref (ad 9), .ref (ad 10), .ref (ad 11), .int (iv 12), .ref (ad 13), .ref (ad 14), .ref (ad 15), .ref (ad 16), .ref (ad 17), .ref (ad 18), .ref (ad 19), .int (iv 20), .ref (ad 21), .ref (ad 22), .ref (ad 23), .ref (ad 24), .ref (ad 25), .ref (ad 26), .ref (ad 27), .ref (ad 28), .int (iv 29), .ref (ad 30), .ref (ad 31), .int (iv 32), .int (iv 33), .int (iv 34), .int (iv 35), .long tl, .int (iv 37), .int (iv 38), .int (iv 39), .int (iv 40), .ref (ad 41), .ref (ad 42), .int (iv 43)])) := hMO.1
  have ha9 : h (ad 9) = some (39, .inl (.int, 28, .inl (fv 9))) := (hMO.2.2 9 (by decide)).1
  have ha10 : h (ad 10) = some (40, .inl (.int, 14, .inl (fv 10))) := (hMO.2.2 10 (by decide)).1
  have ha41 : h (ad 41) = some (71, .inl (.int, 16, .inl (fv 41))) := (hMO.2.2 41 (by decide)).1
  have ha42 : h (ad 42) = some (72, .inl (.int, 32, .inl (fv 42))) := (hMO.2.2 42 (by decide)).1
  obtain ⟨hiv12, hn2, hn14, hCc⟩ := id hC
  obtain ⟨hiv43, hod, hOo⟩ := id hO
  refine lv_iconst (v := nI 0) hx hb d_p15m23_0 (by decide) ?_
  refine lv_istore_n (lv' := [(2, .int (nI 0)), (0, .ref y), (1, .int (nI c9))]) hx hb d_p15m23_1 rfl hl (by decide) rfl (fun ls hl => ?_)
  refine lv_aload_n hx hb d_p15m23_2 rfl (lv_at hl 1 rfl) ?_
  refine pd_get X w hy0 rfl 10 (by decide) mT_1149 rfl rfl d_p15m23_3 ?_
  refine lv_iload_n hx hb d_p15m23_6 rfl (lv_at hl 2 rfl) ?_
  refine pd_iald X w ha10 (by omega) (by omega) d_p15m23_7 ?_
  obtain ⟨rc1, rc2, rc3, rc4, rc5, rc6, rc7, rc8, rc9, rc10⟩ := hCc c9 (by omega)
  have hKc := (hK c9 (by omega)).2.1
  have hf2 := gm_fl_le (R c9)
  rcases hfl1 : gm_fl (R c9) with _ | ⟨a9, _ | ⟨b9, _ | ⟨c9z, t9z⟩⟩⟩
  · -- 0 faces
    rw [hfl1] at rc7 rc8 hKc
    refine pd_top (v' := .int (nI 0)) (congrArg Value.int rc7) ?_
    refine lv_iconst (v := nI 1) hx hb d_p15m23_8 (by decide) ?_
    refine lv_isub hx hb d_p15m23_9 ?_
    refine pd_top (v' := .int (-1)) (by decide) ?_
    refine lv_istore_n (lv' := [(3, .int (-1)), (2, .int (nI 0)), (0, .ref y), (1, .int (nI c9))]) hx hb d_p15m23_10 rfl hl (by decide) rfl (fun ls hl => ?_)
    refine lv_iload_n hx hb d_p15m23_11 rfl (lv_at hl 0 rfl) ?_
    refine lv_if_lt (tgt := 40) hx hb d_p15m23_12 (by decide) (fun _ => ?_) (fun q => absurd (by decide) q)
    exact lp_Mod_facesFrom_40 l G h hMO hC hK hO hc9 hJ hnd hlt X hmn (60 + 1) ([] : List Nat) od (fv 41) (fv 42) h (pd_kx.rf) ((pd_MO.ext (fv2 := pd_fu (pd_fu fv 41 (fv 41)) 42 (fv 42)) (iv2 := pd_fu iv 43 (nI (od).length)) hMO (fun j9 hj9 => by by_cases e9 : j9 = 42; subst e9; rfl; by_cases e8 : j9 = 41; subst e8; rfl; simp only [pd_fu, if_neg e9, if_neg e8]) (gm_mv43 hiv43))) ((show gm_S (fv 42) [] from fun i hi => absurd hi (Nat.not_lt_zero i))) ((fun z hz => absurd hz List.not_mem_nil)) (by simp) (hnd) (hlt) (hod) (hOo) (by rw [← hfl1]; exact hJ) (by rw [gm_G2 hK hc9, hfl1]) (by (try simp only [List.length_cons, List.length_nil]); omega) _ _ w ls (lv_sub hl [1, 2, 3] rfl)
  · -- 1 faces
    rw [hfl1] at rc7 rc8 hKc
    have hka9 := hKc a9 (by simp)
    have hva9 := rc8 0 (by simp)
    refine pd_top (v' := .int (nI 1)) (congrArg Value.int rc7) ?_
    refine lv_iconst (v := nI 1) hx hb d_p15m23_8 (by decide) ?_
    refine pd_isub hx hb d_p15m23_9 (by omega) ?_
    refine lv_istore_n (lv' := [(3, .int (nI 0)), (2, .int (nI 0)), (0, .ref y), (1, .int (nI c9))]) hx hb d_p15m23_10 rfl hl (by decide) rfl (fun ls hl => ?_)
    refine lv_iload_n hx hb d_p15m23_11 rfl (lv_at hl 0 rfl) ?_
    refine pd_zlt (tgt := 40) hx hb d_p15m23_12 (by decide) (by omega) ?_
    refine lv_aload_n hx hb d_p15m23_15 rfl (lv_at hl 2 rfl) ?_
    refine pd_get X w hy0 rfl 42 (by decide) mT_1181 rfl rfl d_p15m23_16 ?_
    refine lv_iload_n hx hb d_p15m23_19 rfl (lv_at hl 1 rfl) ?_
    refine lv_aload_n hx hb d_p15m23_20 rfl (lv_at hl 2 rfl) ?_
    refine pd_get X w hy0 rfl 9 (by decide) mT_1148 rfl rfl d_p15m23_21 ?_
    refine lv_iconst (v := nI 2) hx hb d_p15m23_24 (by decide) ?_
    refine lv_iload_n hx hb d_p15m23_25 rfl (lv_at hl 3 rfl) ?_
    refine pd_imul hx hb d_p15m23_26 ?_
    refine lv_iload_n hx hb d_p15m23_27 rfl (lv_at hl 0 rfl) ?_
    refine pd_iadd hx hb d_p15m23_28 ?_
    refine pd_iald X w ha9 (by omega) (by omega) d_p15m23_29 ?_
    refine pd_top (v' := .int (nI a9)) (congrArg Value.int hva9) ?_
    refine pd_iast X w ha42 (hMO.2.2 42 (by decide)).2 (by omega) (by omega) d_p15m23_30 (fun H locs w => ?_)
    have w : pd_w G s H locs (pd_up h (ad 42) (72, .inl (.int, 32, .inl (upd (fv 42) 0 (nI a9))))) := w
    obtain ⟨h4, u7⟩ : ∃ z, z = pd_up h (ad 42) (72, .inl (.int, 32, .inl (upd (fv 42) 0 (nI a9)))) := ⟨_, rfl⟩
    rw [← u7] at w
    have k5 : pd_kq (ad 42) h h4 := by rw [u7]; exact pd_up_kq
    have f6 : h4 (ad 42) = some (72, .inl (.int, 32, .inl (upd (fv 42) 0 (nI a9)))) := by rw [u7]; exact pd_up_s _ _ _
    have f8 := k5 _ _ (pd_ne hy0 ha42 (by simp)) hy0
    have f9 := k5 _ _ (pd_ne ha9 ha42 (by simp)) ha9
    have f10 := k5 _ _ (pd_ne ha10 ha42 (by simp)) ha10
    have f11 := k5 _ _ (pd_ne ha41 ha42 (by simp)) ha41
    refine pd_iinc (k := 1) (d := 1) (lv' := [(2, .int (nI 1)), (3, .int (nI 0)), (0, .ref y), (1, .int (nI c9))]) hx hb d_p15m23_31 (by decide) hl rfl (by decide) rfl (fun ls hl => ?_)
    refine lv_iinc (k := 1) (x := nI 0) (v := -1) (lv' := [(3, .int (-1)), (2, .int (nI 1)), (0, .ref y), (1, .int (nI c9))]) hx hb d_p15m23_34 hl rfl (by decide) (by decide) rfl (fun ls hl => ?_)
    refine lv_goto (tgt := 11) hx hb d_p15m23_37 (by decide) ?_
    refine lv_iload_n hx hb d_p15m23_11 rfl (lv_at hl 0 rfl) ?_
    refine lv_if_lt (tgt := 40) hx hb d_p15m23_12 (by decide) (fun _ => ?_) (fun q => absurd (by decide) q)
    have mo13 : pd_MO G h4 y ad (pd_fu fv 42 (upd (fv 42) 0 (nI a9))) iv tl := pd_MO.of (ts := [72]) hMO (pd_kq.kx (k5) ha42) f8 (fun j hj => if e42 : j = 42 then by subst e42; exact Or.inl f6 else Or.inr ⟨fun z => by first | (simp at z; done) | (simp at z; omega), by rw [pd_fu_n e42]⟩)
    exact lp_Mod_facesFrom_40 l G h hMO hC hK hO hc9 hJ hnd hlt X hmn (60 + 1) ([a9]) od (fv 41) (upd (fv 42) 0 (nI a9)) h4 (pd_kx.mono (us := [20, 71, 72]) (pd_kq.kx (k5) ha42) (by simp)) ((pd_MO.ext (fv2 := pd_fu (pd_fu fv 41 (fv 41)) 42 (upd (fv 42) 0 (nI a9))) (iv2 := pd_fu iv 43 (nI (od).length)) mo13 (fun j9 hj9 => by by_cases e9 : j9 = 42; subst e9; rfl; by_cases e8 : j9 = 41; subst e8; rfl; simp only [pd_fu, if_neg e9, if_neg e8]) (gm_mv43 hiv43))) (gm_S.push ((show gm_S (fv 42) [] from fun i hi => absurd hi (Nat.not_lt_zero i)))) ((fun z hz => (List.mem_cons.mp hz).elim (fun e9 => by rw [e9]; exact ⟨by omega, hka9.2⟩) (fun y9 => (fun z hz => absurd hz List.not_mem_nil) z y9))) (by simp only [List.length_cons, List.length_nil, List.length_append]; omega) (hnd) (hlt) (hod) (hOo) (by rw [← hfl1]; exact hJ) (by rw [gm_G2 hK hc9, hfl1]) (by (try simp only [List.length_cons, List.length_nil]); omega) _ _ w ls (lv_sub hl [1, 2, 3] rfl)
  · -- 2 faces
    rw [hfl1] at rc7 rc8 hKc
    have hka9 := hKc a9 (by simp)
    have hva9 := rc8 0 (by simp)
    have hkb9 := hKc b9 (by simp)
    have hvb9 := rc8 1 (by simp)
    refine pd_top (v' := .int (nI 2)) (congrArg Value.int rc7) ?_
    refine lv_iconst (v := nI 1) hx hb d_p15m23_8 (by decide) ?_
    refine pd_isub hx hb d_p15m23_9 (by omega) ?_
    refine lv_istore_n (lv' := [(3, .int (nI 1)), (2, .int (nI 0)), (0, .ref y), (1, .int (nI c9))]) hx hb d_p15m23_10 rfl hl (by decide) rfl (fun ls hl => ?_)
    refine lv_iload_n hx hb d_p15m23_11 rfl (lv_at hl 0 rfl) ?_
    refine pd_zlt (tgt := 40) hx hb d_p15m23_12 (by decide) (by omega) ?_
    refine lv_aload_n hx hb d_p15m23_15 rfl (lv_at hl 2 rfl) ?_
    refine pd_get X w hy0 rfl 42 (by decide) mT_1181 rfl rfl d_p15m23_16 ?_
    refine lv_iload_n hx hb d_p15m23_19 rfl (lv_at hl 1 rfl) ?_
    refine lv_aload_n hx hb d_p15m23_20 rfl (lv_at hl 2 rfl) ?_
    refine pd_get X w hy0 rfl 9 (by decide) mT_1148 rfl rfl d_p15m23_21 ?_
    refine lv_iconst (v := nI 2) hx hb d_p15m23_24 (by decide) ?_
    refine lv_iload_n hx hb d_p15m23_25 rfl (lv_at hl 3 rfl) ?_
    refine pd_imul hx hb d_p15m23_26 ?_
    refine lv_iload_n hx hb d_p15m23_27 rfl (lv_at hl 0 rfl) ?_
    refine pd_iadd hx hb d_p15m23_28 ?_
    refine pd_iald X w ha9 (by omega) (by omega) d_p15m23_29 ?_
    refine pd_top (v' := .int (nI b9)) (congrArg Value.int hvb9) ?_
    refine pd_iast X w ha42 (hMO.2.2 42 (by decide)).2 (by omega) (by omega) d_p15m23_30 (fun H locs w => ?_)
    have w : pd_w G s H locs (pd_up h (ad 42) (72, .inl (.int, 32, .inl (upd (fv 42) 0 (nI b9))))) := w
    obtain ⟨h15, u18⟩ : ∃ z, z = pd_up h (ad 42) (72, .inl (.int, 32, .inl (upd (fv 42) 0 (nI b9)))) := ⟨_, rfl⟩
    rw [← u18] at w
    have k16 : pd_kq (ad 42) h h15 := by rw [u18]; exact pd_up_kq
    have f17 : h15 (ad 42) = some (72, .inl (.int, 32, .inl (upd (fv 42) 0 (nI b9)))) := by rw [u18]; exact pd_up_s _ _ _
    have f19 := k16 _ _ (pd_ne hy0 ha42 (by simp)) hy0
    have f20 := k16 _ _ (pd_ne ha9 ha42 (by simp)) ha9
    have f21 := k16 _ _ (pd_ne ha10 ha42 (by simp)) ha10
    have f22 := k16 _ _ (pd_ne ha41 ha42 (by simp)) ha41
    refine pd_iinc (k := 1) (d := 1) (lv' := [(2, .int (nI 1)), (3, .int (nI 1)), (0, .ref y), (1, .int (nI c9))]) hx hb d_p15m23_31 (by decide) hl rfl (by decide) rfl (fun ls hl => ?_)
    refine pd_idec (k := 1) (lv' := [(3, .int (nI 0)), (2, .int (nI 1)), (0, .ref y), (1, .int (nI c9))]) hx hb d_p15m23_34 (by omega) hl rfl (by decide) rfl (fun ls hl => ?_)
    refine lv_goto (tgt := 11) hx hb d_p15m23_37 (by decide) ?_
    refine lv_iload_n hx hb d_p15m23_11 rfl (lv_at hl 0 rfl) ?_
    refine pd_zlt (tgt := 40) hx hb d_p15m23_12 (by decide) (by omega) ?_
    refine lv_aload_n hx hb d_p15m23_15 rfl (lv_at hl 2 rfl) ?_
    refine pd_get X w f19 rfl 42 (by decide) mT_1181 rfl rfl d_p15m23_16 ?_
    refine lv_iload_n hx hb d_p15m23_19 rfl (lv_at hl 1 rfl) ?_
    refine lv_aload_n hx hb d_p15m23_20 rfl (lv_at hl 2 rfl) ?_
    refine pd_get X w f19 rfl 9 (by decide) mT_1148 rfl rfl d_p15m23_21 ?_
    refine lv_iconst (v := nI 2) hx hb d_p15m23_24 (by decide) ?_
    refine lv_iload_n hx hb d_p15m23_25 rfl (lv_at hl 3 rfl) ?_
    refine pd_imul hx hb d_p15m23_26 ?_
    refine lv_iload_n hx hb d_p15m23_27 rfl (lv_at hl 0 rfl) ?_
    refine pd_iadd hx hb d_p15m23_28 ?_
    refine pd_iald X w f20 (by omega) (by omega) d_p15m23_29 ?_
    refine pd_top (v' := .int (nI a9)) (congrArg Value.int hva9) ?_
    refine pd_iast X w f17 (hMO.2.2 42 (by decide)).2 (by omega) (by omega) d_p15m23_30 (fun H locs w => ?_)
    have w : pd_w G s H locs (pd_up h15 (ad 42) (72, .inl (.int, 32, .inl (upd (upd (fv 42) 0 (nI b9)) 1 (nI a9))))) := w
    obtain ⟨h24, u27⟩ : ∃ z, z = pd_up h15 (ad 42) (72, .inl (.int, 32, .inl (upd (upd (fv 42) 0 (nI b9)) 1 (nI a9)))) := ⟨_, rfl⟩
    rw [← u27] at w
    have k25 : pd_kq (ad 42) h15 h24 := by rw [u27]; exact pd_up_kq
    have f26 : h24 (ad 42) = some (72, .inl (.int, 32, .inl (upd (upd (fv 42) 0 (nI b9)) 1 (nI a9)))) := by rw [u27]; exact pd_up_s _ _ _
    have f28 := k25 _ _ (pd_ne f19 f17 (by simp)) f19
    have f29 := k25 _ _ (pd_ne f20 f17 (by simp)) f20
    have f30 := k25 _ _ (pd_ne f21 f17 (by simp)) f21
    have f31 := k25 _ _ (pd_ne f22 f17 (by simp)) f22
    refine pd_iinc (k := 1) (d := 1) (lv' := [(2, .int (nI 2)), (3, .int (nI 0)), (0, .ref y), (1, .int (nI c9))]) hx hb d_p15m23_31 (by decide) hl rfl (by decide) rfl (fun ls hl => ?_)
    refine lv_iinc (k := 1) (x := nI 0) (v := -1) (lv' := [(3, .int (-1)), (2, .int (nI 2)), (0, .ref y), (1, .int (nI c9))]) hx hb d_p15m23_34 hl rfl (by decide) (by decide) rfl (fun ls hl => ?_)
    refine lv_goto (tgt := 11) hx hb d_p15m23_37 (by decide) ?_
    refine lv_iload_n hx hb d_p15m23_11 rfl (lv_at hl 0 rfl) ?_
    refine lv_if_lt (tgt := 40) hx hb d_p15m23_12 (by decide) (fun _ => ?_) (fun q => absurd (by decide) q)
    have mo33 : pd_MO G h24 y ad (pd_fu fv 42 (upd (upd (fv 42) 0 (nI b9)) 1 (nI a9))) iv tl := pd_MO.of (ts := [72]) hMO (pd_kx.tr (pd_kq.kx (k16) ha42) (pd_kq.kx (k25) f17)) f28 (fun j hj => if e42 : j = 42 then by subst e42; exact Or.inl f26 else Or.inr ⟨fun z => by first | (simp at z; done) | (simp at z; omega), by rw [pd_fu_n e42]⟩)
    exact lp_Mod_facesFrom_40 l G h hMO hC hK hO hc9 hJ hnd hlt X hmn (60 + 1) ([a9, b9]) od (fv 41) (upd (upd (fv 42) 0 (nI b9)) 1 (nI a9)) h24 (pd_kx.mono (us := [20, 71, 72]) (pd_kx.tr (pd_kq.kx (k16) ha42) (pd_kq.kx (k25) f17)) (by simp)) ((pd_MO.ext (fv2 := pd_fu (pd_fu fv 41 (fv 41)) 42 (upd (upd (fv 42) 0 (nI b9)) 1 (nI a9))) (iv2 := pd_fu iv 43 (nI (od).length)) mo33 (fun j9 hj9 => by by_cases e9 : j9 = 42; subst e9; rfl; by_cases e8 : j9 = 41; subst e8; rfl; simp only [pd_fu, if_neg e9, if_neg e8]) (gm_mv43 hiv43))) (gm_S.push (gm_S.push ((show gm_S (fv 42) [] from fun i hi => absurd hi (Nat.not_lt_zero i))))) ((fun z hz => (List.mem_cons.mp hz).elim (fun e9 => by rw [e9]; exact ⟨by omega, hka9.2⟩) (fun y9 => (fun z hz => (List.mem_cons.mp hz).elim (fun e9 => by rw [e9]; exact ⟨by omega, hkb9.2⟩) (fun y9 => (fun z hz => absurd hz List.not_mem_nil) z y9)) z y9))) (by simp only [List.length_cons, List.length_nil, List.length_append]; omega) (hnd) (hlt) (hod) (hOo) (by rw [← hfl1]; exact hJ) (by rw [gm_G2 hK hc9, hfl1]) (by (try simp only [List.length_cons, List.length_nil]); omega) _ _ w ls (lv_sub hl [1, 2, 3] rfl)
  · -- three
    exfalso
    rw [hfl1] at hf2
    simp at hf2
