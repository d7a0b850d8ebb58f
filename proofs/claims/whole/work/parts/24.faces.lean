theorem pd_up_up {h : pd_H} {a b : Nat} {c d : pd_C} (n : a ≠ b) : pd_up (pd_up h a c) b d a = some c := by rw [pd_up_n n, pd_up_s]
/-- the marks of a list go to 0 -/
theorem pd_AL.tag {G : pd_G} {s : State} {H : Heap} {locs : List Loc} {h : pd_H} {x : Nat} {xs : List Nat} (w : pd_w G s H locs h) (hz : ∀ (x : Nat) (d : pd_C), G.2.2.1 x = some d → x < G.2.1) (q : pd_AL G h x 7 8 xs) : ∃ h', pd_w G s H locs h' ∧ pd_kx [7, 8] h h' ∧ pd_AL G h' x 0 0 xs := by
  obtain ⟨v, cap, f, h1, h2, h3, h4, h5, h6⟩ := q
  have w1 := w.tag hz 0 h1 h6
  have k1 : pd_kx [7, 8] h (pd_up h x (0, .inr (13, [.ref v, .int (nI xs.length), .int (nI xs.length)]))) := (pd_up_kx h1).mono (by simp)
  rcases h2 with ⟨e1, e2⟩ | ⟨e1, e2, e3⟩
  · refine ⟨_, w1, k1, v, cap, f, pd_up_s _ _ _, Or.inl ⟨e1, e2⟩, h3, h4, (fun y hy => ?_), h6⟩
    obtain ⟨fs, hf⟩ := h5 y hy
    exact ⟨fs, k1 _ _ hf (by show (0 : Nat) ∉ [7, 8]; decide)⟩
  · have hne : v ≠ x := pd_ne e3 h1 (by simp)
    have e4 : pd_up h x (0, .inr (13, [.ref v, .int (nI xs.length), .int (nI xs.length)])) v = some (8, .inl (.object "java/lang/Object", cap, .inr (.inr (.inr (.inr f))))) := by rw [pd_up_n hne]; exact e3
    have w2 := w1.tag hz 0 e4 e2
    have k2 := k1.tr ((pd_up_kx e4 (c := (0, .inl (.object "java/lang/Object", cap, .inr (.inr (.inr (.inr f))))))).mono (us := [7, 8]) (by simp))
    refine ⟨_, w2, k2, v, cap, f, pd_up_up (Ne.symm hne), Or.inr ⟨e1, e2, pd_up_s _ _ _⟩, h3, h4, (fun y hy => ?_), h6⟩
    obtain ⟨fs, hf⟩ := h5 y hy
    exact ⟨fs, k2 _ _ hf (by show (0 : Nat) ∉ [7, 8]; decide)⟩
theorem pd_Row.tag {G : pd_G} {s : State} {H : Heap} {locs : List Loc} {h : pd_H} {A : Nat → Nat} {a i : Nat} {r : pd_cr} (w : pd_w G s H locs h) (hz : ∀ (x : Nat) (d : pd_C), G.2.2.1 x = some d → x < G.2.1) (ha : G.2.1 ≤ a) (q : pd_Row G h A a i 9 r) : ∃ h', pd_w G s H locs h' ∧ pd_kx [9] h h' ∧ pd_Row G h' A a i 0 r := by
  obtain ⟨nm, fx, h1, h2, h3⟩ := q
  have k1 := pd_up_kx h1 (c := (0, .inr (2, [.int (nI i), .ref nm, .int (pd_b r.2.1), va_rf (r.2.2.1.map A), va_rf (r.2.2.2.1.map A), va_rf (r.2.2.2.2.1.map A), .ref fx, .int r.2.2.2.2.2.1, .int (pd_m (gr_sl r.1))])))
  have n0 : (0 : Nat) ∉ [9] := by decide
  exact ⟨_, w.tag hz 0 h1 ha, k1, nm, fx, pd_up_s _ _ _, h2.kx k1 n0, h3.kx k1 n0 n0 n0⟩
/-- a function with another value at n -/
def pd_fu {α : Type} (f : Nat → α) (n : Nat) (x : α) : Nat → α := fun i => if i = n then x else f i
theorem pd_fu_s {α : Type} (f : Nat → α) (n : Nat) (x : α) : pd_fu f n x n = x := if_pos rfl
theorem pd_fu_n {α : Type} {f : Nat → α} {n i : Nat} {x : α} (h : ¬ i = n) : pd_fu f n x i = f i := if_neg h
theorem pd_omap {A : Nat → Nat} {n x : Nat} {o : Option Nat} (h : ∀ k, o = some k → k < n) : o.map (pd_fu A n x) = o.map A := by
  cases o with
  | none => rfl
  | some k => rw [Option.map_some, Option.map_some, pd_fu_n (by have := h k rfl; omega)]
theorem pd_lmap {A : Nat → Nat} {n x : Nat} {ks : List Nat} (h : ∀ k ∈ ks, k < n) : ks.map (pd_fu A n x) = ks.map A := List.map_congr_left (fun k hk => pd_fu_n (by have := h k hk; omega))
theorem pd_Row.fu {G : pd_G} {h : pd_H} {A : Nat → Nat} {a i t n x : Nat} {r : pd_cr} (q : pd_Row G h A a i t r) (h1 : ∀ k, r.2.2.1 = some k → k < n) (h2 : ∀ k, r.2.2.2.1 = some k → k < n) (h3 : ∀ k, r.2.2.2.2.1 = some k → k < n) (h4 : ∀ k ∈ r.2.2.2.2.2.2, k < n) : pd_Row G h (pd_fu A n x) a i t r := by
  unfold pd_Row
  rw [pd_omap h1, pd_omap h2, pd_omap h3, pd_lmap h4]
  exact q
/-- one row more -/
theorem pd_Rows.ext {G : pd_G} {h : pd_H} {A : Nat → Nat} {n x : Nat} {R : Nat → pd_cr} {r : pd_cr} (q : pd_Rows G h A n R) (hn : n < 14) (hr : pd_Row G h A x n 0 r) (hx : ∀ i, i < n → ¬ A i = x) (h1 : ∀ k, r.2.2.1 = some k → k < n) (h2 : ∀ k, r.2.2.2.1 = some k → k < n) (h3 : ∀ k, r.2.2.2.2.1 = some k → k < n) (h4 : ∀ k ∈ r.2.2.2.2.2.2, k < n) (h5 : r.2.2.2.2.2.2.Nodup) : pd_Rows G h (pd_fu A n x) (n + 1) (pd_fu R n r) := by
  obtain ⟨q1, q2, q3⟩ := q
  refine ⟨fun i hi => ?_, fun i j hi hj e => ?_, by omega, fun i hi => ?_⟩
  · by_cases z : i = n
    · subst z
      rw [pd_fu_s, pd_fu_s]
      exact hr.fu h1 h2 h3 h4
    · rw [pd_fu_n z, pd_fu_n z]
      obtain ⟨a1, a2, a3, a4, a5⟩ := q3.2 i (by omega)
      exact (q1 i (by omega)).fu (fun k hk => by have := a1 k hk; omega) (fun k hk => by have := a2 k hk; omega) (fun k hk => by have := a3 k hk; omega) (fun k hk => by have := a4 k hk; omega)
  · by_cases z : i = n
    · by_cases y : j = n
      · omega
      · rw [z, pd_fu_s, pd_fu_n y] at e
        exact absurd e.symm (hx j (by omega))
    · by_cases y : j = n
      · rw [y, pd_fu_s, pd_fu_n z] at e
        exact absurd e (hx i (by omega))
      · rw [pd_fu_n z, pd_fu_n y] at e
        exact q2 i j (by omega) (by omega) e
  · by_cases z : i = n
    · subst z
      rw [pd_fu_s]
      exact ⟨h1, h2, h3, h4, h5⟩
    · rw [pd_fu_n z]
      exact q3.2 i (by omega)
theorem al_in {xs : List Nat} {y : Nat} (h : y ∈ xs) : al_add xs y = xs := if_pos h
theorem al_out {xs : List Nat} {y : Nat} (h : y ∉ xs) : al_add xs y = xs ++ [y] := if_neg h
theorem tx_mem_get {xs : List Nat} {y : Nat} (h : y ∈ xs) : ∃ j, j < xs.length ∧ xs.getD j 0 = y := by
  obtain ⟨j, hj, e⟩ := List.mem_iff_getElem.mp h
  exact ⟨j, hj, by rw [List.getD_eq_getElem?_getD, List.getElem?_eq_getElem hj]; exact e⟩
theorem d_p4m6_0 : decode prog_4_method_6_code 0 = .ok (.iconst 0, 1) := by decide +kernel
theorem d_p4m6_1 : decode prog_4_method_6_code 1 = .ok (.istore_n 2, 1) := by decide +kernel
theorem d_p4m6_2 : decode prog_4_method_6_code 2 = .ok (.iload_n 2, 1) := by decide +kernel
theorem d_p4m6_3 : decode prog_4_method_6_code 3 = .ok (.aload_n 0, 1) := by decide +kernel
theorem d_p4m6_4 : decode prog_4_method_6_code 4 = .ok (.invokevirtual 73, 3) := by decide +kernel
theorem d_p4m6_7 : decode prog_4_method_6_code 7 = .ok (.if_icmp .ge 19, 3) := by decide +kernel
theorem d_p4m6_10 : decode prog_4_method_6_code 10 = .ok (.aload_n 0, 1) := by decide +kernel
theorem d_p4m6_11 : decode prog_4_method_6_code 11 = .ok (.iload_n 2, 1) := by decide +kernel
theorem d_p4m6_12 : decode prog_4_method_6_code 12 = .ok (.invokevirtual 76, 3) := by decide +kernel
theorem d_p4m6_15 : decode prog_4_method_6_code 15 = .ok (.aload_n 1, 1) := by decide +kernel
theorem d_p4m6_16 : decode prog_4_method_6_code 16 = .ok (.if_acmp .ne 4, 3) := by decide +kernel
theorem d_p4m6_19 : decode prog_4_method_6_code 19 = .ok (.return_, 1) := by decide +kernel
theorem d_p4m6_20 : decode prog_4_method_6_code 20 = .ok (.iinc 2 1, 3) := by decide +kernel
theorem d_p4m6_23 : decode prog_4_method_6_code 23 = .ok (.goto (-21), 3) := by decide +kernel
theorem d_p4m6_26 : decode prog_4_method_6_code 26 = .ok (.aload_n 0, 1) := by decide +kernel
theorem d_p4m6_27 : decode prog_4_method_6_code 27 = .ok (.aload_n 1, 1) := by decide +kernel
theorem d_p4m6_28 : decode prog_4_method_6_code 28 = .ok (.invokevirtual 80, 3) := by decide +kernel
theorem d_p4m6_31 : decode prog_4_method_6_code 31 = .ok (.pop, 1) := by decide +kernel
theorem d_p4m6_32 : decode prog_4_method_6_code 32 = .ok (.return_, 1) := by decide +kernel
abbrev y_ClassRow_addOnce : MethodName := ⟨"PolicyDesk$ClassRow", "addOnce", "(Ljava/util/ArrayList;LPolicyDesk$ClassRow;)V"⟩
theorem ok_ClassRow_addOnce : pd_ok y_ClassRow_addOnce prog_4_method_6_code 3 none 2 := ⟨mT_173, mT_7, by decide, by decide +kernel⟩
abbrev rm_ClassRow_addOnce : Room := { frames := 7, cells := 1, slots := 15, locals := 171 }
set_option maxHeartbeats 4000000 in
set_option maxRecDepth 100000 in
theorem lp_ClassRow_addOnce_2 (l : Launch) (G : pd_G) (h : pd_H) {x y : Nat} {xs : List Nat} {fs : List Value} (hA : pd_AL G h x 7 8 xs) (hy : h y = some (0, .inr (2, fs))) (hlen : y ∉ xs → xs.length ≤ 12) {p : Program} {e : Env} {s : State} {m : MethodId} {below : List Frame} {meth : Method} {c : Code} (X : pd_B p s m [.ref x, .ref y].toArray meth c G y_ClassRow_addOnce.cls prog_4_method_6_code 3 none) (hmn : meth.name = y_ClassRow_addOnce.name) :
    ∀ (kk9 : Nat) (i : Nat), (i ≤ xs.length) → (∀ j, j < i → ¬ xs.getD j 0 = y) → xs.length - i < kk9 → ∀ (H : Heap) (locs : List Loc), pd_w G s H locs h → ∀ ls : Array Slot, lv_has ls 3 [(2, .int (nI i)), (0, .ref x), (1, .ref y)] → W p l e rm_ClassRow_addOnce s m [.ref x, .ref y].toArray below meth c H locs 0 0 (MQ below (pd_Qv G (fun h1 => pd_kx [7, 8] h h1 ∧ pd_AL G h1 x 7 8 (al_add xs y))) [.ref x, .ref y].toArray s rm_ClassRow_addOnce.cells rm_ClassRow_addOnce.slots (fun q => G.2.1 ≤ q)) (F0 m 2 ls []) := by
  have hx := X.1
  have hb := X.2.1
  obtain ⟨v, cap, f, hx0, hcv, hxc, hfj, hrw, hz_x⟩ := id hA
  have hc15 : cap ≤ 15 := by rcases hcv with z | z <;> omega
  intro kk9
  induction kk9 with
  | zero => intros; omega
  | succ kk9 ih =>
    intro i hi hj9 hmu H locs w ls hl
    refine lv_iload_n hx hb d_p4m6_2 rfl (lv_at hl 0 rfl) ?_
    refine lv_aload_n hx hb d_p4m6_3 rfl (lv_at hl 1 rfl) ?_
    refine pd_cV (a := x) (As := []) (rest := [.int (nI i)]) X w hx0 rfl (c_AL_size l G h (by assumption)) ok_AL_size ⟨mT_175, mT_176⟩ mT_174 ⟨by decide, by decide⟩ rfl hl.1 rfl (Nat.le_of_ble_eq_true rfl) d_p4m6_4 ⟨by decide, by decide⟩ (fun r1 h2 H locs hp3 w => ?_)
    refine W.widen (k := 0) (n := 0) (by decide) (by decide) ?_
    obtain ⟨e4, rfl⟩ := hp3
    refine pd_jge (tgt := 26) hx hb d_p4m6_7 (by decide) (by omega) (by omega) (fun q5 => ?_) (fun q5 => ?_)
    · -- taken: 26
      refine lv_aload_n hx hb d_p4m6_26 rfl (lv_at hl 1 rfl) ?_
      refine lv_aload_n hx hb d_p4m6_27 rfl (lv_at hl 2 rfl) ?_
      refine pd_cV (a := x) (As := [.ref y]) (rest := []) X w hx0 rfl (c_AL_add l G h (by assumption) (by assumption) (hlen (fun z => by obtain ⟨j, hj, e9⟩ := tx_mem_get z; exact hj9 j (by omega) e9))) ok_AL_add ⟨mT_191, mT_192⟩ mT_190 ⟨by decide, by decide⟩ rfl hl.1 rfl (Nat.le_of_ble_eq_true rfl) d_p4m6_28 ⟨by decide, by decide⟩ (fun r6 h7 H locs hp8 w => ?_)
      refine W.widen (k := 1) (n := 15) (by decide) (by decide) ?_
      obtain ⟨e9, k10, f11⟩ := hp8
      have f12 := k10 _ _ hy (show (0 : Nat) ∉ [7, 8] by decide)
      refine lv_pop hx hb d_p4m6_31 rfl ?_
      exact pd_vret X w ⟨k10, (by rw [al_out (fun z => by obtain ⟨j, hj, e9⟩ := tx_mem_get z; exact hj9 j (by omega) e9)]; exact f11)⟩ (by decide) (by decide) d_p4m6_32
    · -- not taken: 10
      refine lv_aload_n hx hb d_p4m6_10 rfl (lv_at hl 1 rfl) ?_
      refine lv_iload_n hx hb d_p4m6_11 rfl (lv_at hl 0 rfl) ?_
      refine pd_cV (a := x) (As := [.int (nI i)]) (rest := []) X w hx0 rfl (c_AL_get l G h (by assumption) (by omega)) ok_AL_get ⟨mT_179, mT_180⟩ mT_178 ⟨by decide, by decide⟩ rfl hl.1 rfl (Nat.le_of_ble_eq_true rfl) d_p4m6_12 ⟨by decide, by decide⟩ (fun r13 h14 H locs hp15 w => ?_)
      refine W.widen (k := 0) (n := 0) (by decide) (by decide) ?_
      obtain ⟨e16, rfl⟩ := hp15
      refine lv_aload_n hx hb d_p4m6_15 rfl (lv_at hl 2 rfl) ?_
      refine lv_acmp_ne (rx := (some r13)) (ry := (some y)) (tgt := 20) hx hb d_p4m6_16 (by decide) (fun q17 => ?_) (fun q17 => ?_)
      · -- taken: 20
        refine pd_iinc (k := 0) (d := 1) (lv' := [(2, .int (nI (i + 1))), (0, .ref x), (1, .ref y)]) hx hb d_p4m6_20 (by decide) hl rfl (by decide) rfl (fun ls hl => ?_)
        refine lv_goto (tgt := 2) hx hb d_p4m6_23 (by decide) ?_
        exact ih (i + 1) (by omega) (fun j hj => by by_cases e9 : j = i; subst e9; intro z; exact q17 (by rw [← e16, z]); exact hj9 j (by omega)) (by omega) _ _ w ls (lv_sub hl [0, 1, 2] rfl)
      · -- not taken: 19
        exact pd_vret X w ⟨pd_kx.rf, (by rw [al_in (by have z := e16; rw [← Option.some.inj q17, ← z]; exact tx_get_mem (by omega))]; exact hA)⟩ (by decide) (by decide) d_p4m6_19
set_option maxHeartbeats 4000000 in
set_option maxRecDepth 100000 in
theorem c_ClassRow_addOnce (l : Launch) (G : pd_G) (h : pd_H) {x y : Nat} {xs : List Nat} {fs : List Value} (hA : pd_AL G h x 7 8 xs) (hy : h y = some (0, .inr (2, fs))) (hlen : y ∉ xs → xs.length ≤ 12) : pd_Mv l y_ClassRow_addOnce prog_4_method_6_code 3 rm_ClassRow_addOnce G h [.ref x, .ref y] (fun h1 => pd_kx [7, 8] h h1 ∧ pd_AL G h1 x 7 8 (al_add xs y)) := by
  refine pd_Mv.of (by decide) (Nat.le_of_ble_eq_true rfl) ?_
  intro p e s m below meth c X hmn w ls hl
  have hx := X.1
  have hb := X.2.1
  have hl : lv_has ls 3 [(0, .ref x), (1, .ref y)] := hl
  obtain ⟨v, cap, f, hx0, hcv, hxc, hfj, hrw, hz_x⟩ := id hA
  have hc15 : cap ≤ 15 := by rcases hcv with z | z <;> omega
  refine lv_iconst (v := nI 0) hx hb d_p4m6_0 (by decide) ?_
  refine lv_istore_n (lv' := [(2, .int (nI 0)), (0, .ref x), (1, .ref y)]) hx hb d_p4m6_1 rfl hl (by decide) rfl (fun ls hl => ?_)
  exact lp_ClassRow_addOnce_2 l G h hA hy hlen X hmn (xs.length + 1) 0 (by omega) (fun j hj => absurd hj (Nat.not_lt_zero j)) (by omega) _ _ w ls (lv_sub hl [0, 1, 2] rfl)
theorem d_p4m5_0 : decode prog_4_method_5_code 0 = .ok (.aload_n 1, 1) := by decide +kernel
theorem d_p4m5_1 : decode prog_4_method_5_code 1 = .ok (.ifnonnull 4, 3) := by decide +kernel
theorem d_p4m5_4 : decode prog_4_method_5_code 4 = .ok (.return_, 1) := by decide +kernel
theorem d_p4m5_5 : decode prog_4_method_5_code 5 = .ok (.aload_n 0, 1) := by decide +kernel
theorem d_p4m5_6 : decode prog_4_method_5_code 6 = .ok (.aload_n 1, 1) := by decide +kernel
theorem d_p4m5_7 : decode prog_4_method_5_code 7 = .ok (.invokestatic 70, 3) := by decide +kernel
theorem d_p4m5_10 : decode prog_4_method_5_code 10 = .ok (.iconst 0, 1) := by decide +kernel
theorem d_p4m5_11 : decode prog_4_method_5_code 11 = .ok (.istore_n 2, 1) := by decide +kernel
theorem d_p4m5_12 : decode prog_4_method_5_code 12 = .ok (.iload_n 2, 1) := by decide +kernel
theorem d_p4m5_13 : decode prog_4_method_5_code 13 = .ok (.aload_n 1, 1) := by decide +kernel
theorem d_p4m5_14 : decode prog_4_method_5_code 14 = .ok (.getfield 49, 3) := by decide +kernel
theorem d_p4m5_17 : decode prog_4_method_5_code 17 = .ok (.invokevirtual 73, 3) := by decide +kernel
theorem d_p4m5_20 : decode prog_4_method_5_code 20 = .ok (.if_icmp .ge 24, 3) := by decide +kernel
theorem d_p4m5_23 : decode prog_4_method_5_code 23 = .ok (.aload_n 0, 1) := by decide +kernel
theorem d_p4m5_24 : decode prog_4_method_5_code 24 = .ok (.aload_n 1, 1) := by decide +kernel
theorem d_p4m5_25 : decode prog_4_method_5_code 25 = .ok (.getfield 49, 3) := by decide +kernel
theorem d_p4m5_28 : decode prog_4_method_5_code 28 = .ok (.iload_n 2, 1) := by decide +kernel
theorem d_p4m5_29 : decode prog_4_method_5_code 29 = .ok (.invokevirtual 76, 3) := by decide +kernel
theorem d_p4m5_32 : decode prog_4_method_5_code 32 = .ok (.checkcast 8, 3) := by decide +kernel
theorem d_p4m5_35 : decode prog_4_method_5_code 35 = .ok (.invokestatic 70, 3) := by decide +kernel
theorem d_p4m5_38 : decode prog_4_method_5_code 38 = .ok (.iinc 2 1, 3) := by decide +kernel
theorem d_p4m5_41 : decode prog_4_method_5_code 41 = .ok (.goto (-29), 3) := by decide +kernel
theorem d_p4m5_44 : decode prog_4_method_5_code 44 = .ok (.return_, 1) := by decide +kernel
abbrev y_ClassRow_addWithItsOwn : MethodName := ⟨"PolicyDesk$ClassRow", "addWithItsOwn", "(Ljava/util/ArrayList;LPolicyDesk$ClassRow;)V"⟩
theorem ok_ClassRow_addWithItsOwn : pd_ok y_ClassRow_addWithItsOwn prog_4_method_5_code 3 none 2 := ⟨mT_170, mT_7, by decide, by decide +kernel⟩
abbrev rm_ClassRow_addWithItsOwn : Room := { frames := 8, cells := 14, slots := 210, locals := 193 }
set_option maxHeartbeats 4000000 in
set_option maxRecDepth 100000 in
theorem lp_ClassRow_addWithItsOwn_12 (l : Launch) (G : pd_G) (h : pd_H) {A : Nat → Nat} {n : Nat} {R : Nat → pd_cr} {x : Nat} {ks : List Nat} {o : Option Nat} (hR : pd_Rows G h A n R) (hA : pd_AL G h x 7 8 (ks.map A)) (ho : ∀ k, o = some k → k < n) (hnd : ks.Nodup) (hlt : ∀ z ∈ ks, z < n) (hn13 : n ≤ 13) {p : Program} {e : Env} {s : State} {m : MethodId} {below : List Frame} {meth : Method} {c : Code} (X : pd_B p s m [.ref x, va_rf (o.map A)].toArray meth c G y_ClassRow_addWithItsOwn.cls prog_4_method_5_code 3 none) (hmn : meth.name = y_ClassRow_addWithItsOwn.name) :
    ∀ (kk9 : Nat) (i : Nat) (k : Nat) (ks2 : List Nat) (cC : Nat) (cS : Nat) (h2 : pd_H), (o = some k) → (k < n) → (i ≤ 13) → (cC + (13 - i) ≤ 14) → (cS + 15 * (13 - i) ≤ 210) → (ks2.Nodup) → (∀ z ∈ ks2, z < n) → (pd_kx [7, 8] h h2) → (pd_Rows G h2 A n R) → (pd_AL G h2 x 7 8 (ks2.map A)) → (ks2 = ((R k).2.2.2.2.2.2.take i).foldl al_add (al_add ks k)) → 20 - i < kk9 → ∀ (H : Heap) (locs : List Loc), pd_w G s H locs h2 → ∀ ls : Array Slot, lv_has ls 3 [(2, .int (nI i)), (0, .ref x), (1, .ref (A k))] → W p l e rm_ClassRow_addWithItsOwn s m [.ref x, va_rf (o.map A)].toArray below meth c H locs cC cS (MQ below (pd_Qv G (fun h1 => pd_kx [7, 8] h h1 ∧ pd_AL G h1 x 7 8 ((gr_addw R ks o).map A))) [.ref x, va_rf (o.map A)].toArray s rm_ClassRow_addWithItsOwn.cells rm_ClassRow_addWithItsOwn.slots (fun q => G.2.1 ≤ q)) (F0 m 12 ls []) := by
  have hx := X.1
  have hb := X.2.1
  have hcw := hR.2.2
  have hAi := hR.2.1
  have hn14 := hcw.1
  intro kk9
  induction kk9 with
  | zero => intros; omega
  | succ kk9 ih =>
    intro i k ks2 cC cS h2 hok hkn hi hcC hcS hnd2 hlt2 hk2 hR2 hA2 hv hmu H locs w ls hl
    have hfl : (R k).2.2.2.2.2.2.length ≤ 13 := by have z := nd_len k _ (hcw.2 k hkn).2.2.2.2 (hcw.2 k hkn).2.2.2.1; omega
    refine lv_iload_n hx hb d_p4m5_12 rfl (lv_at hl 0 rfl) ?_
    refine lv_aload_n hx hb d_p4m5_13 rfl (lv_at hl 2 rfl) ?_
    obtain ⟨nm1, fx2, f3, f4, f5⟩ := hR2.1 k (by omega)
    obtain ⟨v6, g7, f8, f9, gf10, gc11, gl12⟩ := id f4
    obtain ⟨v13, cap14, g15, f16, z17, z18, z19, z20, z21⟩ := id f5
    refine pd_get X w f3 rfl 6 (by decide) mT_268 rfl rfl d_p4m5_14 ?_
    refine pd_cV (a := fx2) (As := []) (rest := [.int (nI i)]) X w f16 rfl (c_AL_size l G h2 (by assumption)) ok_AL_size ⟨mT_175, mT_176⟩ mT_174 ⟨by decide, by decide⟩ rfl hl.1 rfl (Nat.le_of_ble_eq_true rfl) d_p4m5_17 ⟨Nat.le_trans (m := 14) (by show cC + 0 ≤ 14; omega) (by decide), Nat.le_trans (m := 210) (by show cS + 0 ≤ 210; omega) (by decide)⟩ (fun r22 h23 H locs hp24 w => ?_)
    refine W.widen (k := cC) (n := cS) (by show cC + 0 ≤ cC; omega) (by show cS + 0 ≤ cS; omega) ?_
    obtain ⟨e25, rfl⟩ := hp24
    refine pd_jge (tgt := 44) hx hb d_p4m5_20 (by decide) (by omega) (by omega) (fun q26 => ?_) (fun q26 => ?_)
    · -- taken: 44
      exact pd_vret X w ⟨hk2, (by rw [hok]; show pd_AL G h2 x 7 8 (((R k).2.2.2.2.2.2.foldl al_add (al_add ks k)).map A); rw [← List.take_of_length_le (l := (R k).2.2.2.2.2.2) (i := i) (by have z := e25; rw [List.length_map] at z; omega), ← hv]; exact hA2)⟩ (Nat.le_trans (m := 14) (by show cC ≤ 14; omega) (by decide)) (Nat.le_trans (m := 210) (by show cS ≤ 210; omega) (by decide)) d_p4m5_44
    · -- not taken: 23
      refine lv_aload_n hx hb d_p4m5_23 rfl (lv_at hl 1 rfl) ?_
      refine lv_aload_n hx hb d_p4m5_24 rfl (lv_at hl 2 rfl) ?_
      refine pd_get X w f3 rfl 6 (by decide) mT_268 rfl rfl d_p4m5_25 ?_
      refine lv_iload_n hx hb d_p4m5_28 rfl (lv_at hl 0 rfl) ?_
      refine pd_cV (a := fx2) (As := [.int (nI i)]) (rest := [.ref x]) X w f16 rfl (c_AL_get l G h2 (by assumption) (by omega)) ok_AL_get ⟨mT_179, mT_180⟩ mT_178 ⟨by decide, by decide⟩ rfl hl.1 rfl (Nat.le_of_ble_eq_true rfl) d_p4m5_29 ⟨Nat.le_trans (m := 14) (by show cC + 0 ≤ 14; omega) (by decide), Nat.le_trans (m := 210) (by show cS + 0 ≤ 210; omega) (by decide)⟩ (fun r27 h28 H locs hp29 w => ?_)
      refine W.widen (k := cC) (n := cS) (by show cC + 0 ≤ cC; omega) (by show cS + 0 ≤ cS; omega) ?_
      obtain ⟨e30, rfl⟩ := hp29
      have hjl : i < (R k).2.2.2.2.2.2.length := by have z := e25; rw [List.length_map] at z; omega
      have hjn : (R k).2.2.2.2.2.2.getD i 0 < n := Nat.lt_trans ((hcw.2 k hkn).2.2.2.1 _ (tx_get_mem hjl)) hkn
      refine pd_top (v' := .ref (A ((R k).2.2.2.2.2.2.getD i 0))) (by rw [← e30, tx_map_get hjl]) ?_
      obtain ⟨nm31, fx32, f33, f34, f35⟩ := hR2.1 ((R k).2.2.2.2.2.2.getD i 0) (by omega)
      obtain ⟨v36, g37, f38, f39, gf40, gc41, gl42⟩ := id f34
      obtain ⟨v43, cap44, g45, f46, z47, z48, z49, z50, z51⟩ := id f35
      refine pd_castO X w f33 rfl mT_252 d_p4m5_32 ?_
      refine pd_cSv (As := [.ref x, .ref (A ((R k).2.2.2.2.2.2.getD i 0))]) (rest := []) X w (c_ClassRow_addOnce l G h2 (by assumption) (by assumption) (fun q => by rw [List.length_map]; exact al_len hnd2 hlt2 hjn hn13 (fun y => q (List.mem_map_of_mem y)))) ok_ClassRow_addOnce mT_172 mT_171 ⟨by decide, by decide⟩ rfl hl.1 rfl (Nat.le_of_ble_eq_true rfl) d_p4m5_35 ⟨Nat.le_trans (m := 14) (by show cC + 1 ≤ 14; omega) (by decide), Nat.le_trans (m := 210) (by show cS + 15 ≤ 210; omega) (by decide)⟩ (fun h53 H locs hp54 w => ?_)
      refine W.widen (k := cC + 1) (n := cS + 15) (by show cC + 1 ≤ cC + 1; omega) (by show cS + 15 ≤ cS + 15; omega) ?_
      obtain ⟨k55, f56⟩ := hp54
      have f57 := k55 _ _ f3 (show (0 : Nat) ∉ [7, 8] by decide)
      have f58 := k55 _ _ f8 (show (0 : Nat) ∉ [7, 8] by decide)
      have f59 := k55 _ _ f16 (show (0 : Nat) ∉ [7, 8] by decide)
      have f60 := k55 _ _ f33 (show (0 : Nat) ∉ [7, 8] by decide)
      have f61 := k55 _ _ f38 (show (0 : Nat) ∉ [7, 8] by decide)
      have f62 := k55 _ _ f46 (show (0 : Nat) ∉ [7, 8] by decide)
      have f63 := k55 _ _ f9 (show (0 : Nat) ∉ [7, 8] by decide)
      have f64 := k55 _ _ f39 (show (0 : Nat) ∉ [7, 8] by decide)
      have f65 := hR2.kx k55 (show (0 : Nat) ∉ [7, 8] by decide)
      have f66 := f4.kx k55 (show (0 : Nat) ∉ [7, 8] by decide)
      have f67 := f5.kx k55 (show (0 : Nat) ∉ [7, 8] by decide) (show (0 : Nat) ∉ [7, 8] by decide) (show (0 : Nat) ∉ [7, 8] by decide)
      have f68 := f34.kx k55 (show (0 : Nat) ∉ [7, 8] by decide)
      have f69 := f35.kx k55 (show (0 : Nat) ∉ [7, 8] by decide) (show (0 : Nat) ∉ [7, 8] by decide) (show (0 : Nat) ∉ [7, 8] by decide)
      refine pd_iinc (k := 0) (d := 1) (lv' := [(2, .int (nI (i + 1))), (0, .ref x), (1, .ref (A k))]) hx hb d_p4m5_38 (by decide) hl rfl (by decide) rfl (fun ls hl => ?_)
      refine lv_goto (tgt := 12) hx hb d_p4m5_41 (by decide) ?_
      exact ih (i + 1) k (al_add ks2 ((R k).2.2.2.2.2.2.getD i 0)) (cC + 1) (cS + 15) h53 (hok) (hkn) (by omega) (by omega) (by omega) (al_nd hnd2) (al_lt hlt2 hjn) (hk2.tr (k55)) (f65) (by rw [← al_map hAi hlt2 hjn]; exact f56) (by rw [hv]; exact al_take hjl _) (by omega) _ _ w ls (lv_sub hl [0, 1, 2] rfl)
set_option maxHeartbeats 4000000 in
set_option maxRecDepth 100000 in
theorem c_ClassRow_addWithItsOwn (l : Launch) (G : pd_G) (h : pd_H) {A : Nat → Nat} {n : Nat} {R : Nat → pd_cr} {x : Nat} {ks : List Nat} {o : Option Nat} (hR : pd_Rows G h A n R) (hA : pd_AL G h x 7 8 (ks.map A)) (ho : ∀ k, o = some k → k < n) (hnd : ks.Nodup) (hlt : ∀ z ∈ ks, z < n) (hn13 : n ≤ 13) : pd_Mv l y_ClassRow_addWithItsOwn prog_4_method_5_code 3 rm_ClassRow_addWithItsOwn G h [.ref x, va_rf (o.map A)] (fun h1 => pd_kx [7, 8] h h1 ∧ pd_AL G h1 x 7 8 ((gr_addw R ks o).map A)) := by
  refine pd_Mv.of (by decide) (by cases o <;> exact Nat.le_of_ble_eq_true rfl) ?_
  intro p e s m below meth c X hmn w ls hl
  have hx := X.1
  have hb := X.2.1
  have hl : lv_has ls 3 [(0, .ref x), (1, va_rf (o.map A))] := by simp only [lv_args, pd_cat] at hl; simpa [Value.category] using hl
  have hcw := hR.2.2
  have hAi := hR.2.1
  have hn14 := hcw.1
  refine pd_oload_n hx hb d_p4m5_0 rfl (lv_at hl 1 rfl) ?_
  rcases pd_oc o with q1 | ⟨i3, q1⟩
  · -- none
    refine pd_top (v' := .null) (by rw [q1]; rfl) ?_
    rw [q1] at hl
    have hl : lv_has ls 3 [(0, .ref x), (1, .null)] := hl
    refine lv_ifnonnullN hx hb d_p4m5_1 ?_
    exact pd_vret X w ⟨pd_kx.rf, (by rw [q1]; exact hA)⟩ (by decide) (by decide) d_p4m5_4
  · -- some
    refine pd_top (v' := .ref (A i3)) (by rw [q1]; rfl) ?_
    rw [q1] at hl
    have hl : lv_has ls 3 [(0, .ref x), (1, .ref (A i3))] := hl
    have i3lt := ho i3 q1
    refine lv_ifnonnull (tgt := 5) hx hb d_p4m5_1 (by decide) ?_
    refine lv_aload_n hx hb d_p4m5_5 rfl (lv_at hl 0 rfl) ?_
    refine lv_aload_n hx hb d_p4m5_6 rfl (lv_at hl 1 rfl) ?_
    obtain ⟨nm6, fx7, f8, f9, f10⟩ := hR.1 i3 (by omega)
    obtain ⟨v11, g12, f13, f14, gf15, gc16, gl17⟩ := id f9
    obtain ⟨v18, cap19, g20, f21, z22, z23, z24, z25, z26⟩ := id f10
    refine pd_cSv (As := [.ref x, .ref (A i3)]) (rest := []) X w (c_ClassRow_addOnce l G h (by assumption) (by assumption) (fun q => by rw [List.length_map]; exact al_len hnd hlt (by assumption) hn13 (fun y => q (List.mem_map_of_mem y)))) ok_ClassRow_addOnce mT_172 mT_171 ⟨by decide, by decide⟩ rfl hl.1 rfl (Nat.le_of_ble_eq_true rfl) d_p4m5_7 ⟨by decide, by decide⟩ (fun h28 H locs hp29 w => ?_)
    refine W.widen (k := 1) (n := 15) (by decide) (by decide) ?_
    obtain ⟨k30, f31⟩ := hp29
    have f32 := k30 _ _ f8 (show (0 : Nat) ∉ [7, 8] by decide)
    have f33 := k30 _ _ f13 (show (0 : Nat) ∉ [7, 8] by decide)
    have f34 := k30 _ _ f21 (show (0 : Nat) ∉ [7, 8] by decide)
    have f35 := k30 _ _ f14 (show (0 : Nat) ∉ [7, 8] by decide)
    have f36 := hR.kx k30 (show (0 : Nat) ∉ [7, 8] by decide)
    have f37 := f9.kx k30 (show (0 : Nat) ∉ [7, 8] by decide)
    have f38 := f10.kx k30 (show (0 : Nat) ∉ [7, 8] by decide) (show (0 : Nat) ∉ [7, 8] by decide) (show (0 : Nat) ∉ [7, 8] by decide)
    refine lv_iconst (v := nI 0) hx hb d_p4m5_10 (by decide) ?_
    refine lv_istore_n (lv' := [(2, .int (nI 0)), (0, .ref x), (1, .ref (A i3))]) hx hb d_p4m5_11 rfl hl (by decide) rfl (fun ls hl => ?_)
    exact lp_ClassRow_addWithItsOwn_12 l G h hR hA ho hnd hlt hn13 X hmn (20 + 1) 0 i3 (al_add ks i3) 1 15 h28 (q1) (by assumption) (by omega) (by omega) (by omega) (al_nd hnd) (al_lt hlt (by assumption)) (k30) (f36) (by rw [← al_map hAi hlt (by assumption)]; exact f31) (rfl) (by omega) _ _ w ls (lv_sub hl [0, 1, 2] rfl)
