/-! all classes -/
def pd_Cls (G : pd_G) (h : pd_H) (x : Nat) (A : Nat → Nat) (n : Nat) (R : Nat → pd_cr) : Prop := ∃ (ar : Nat) (f : Nat → Option Nat), h x = some (6, .inr (3, [.ref (A 0), .ref (A 1), .ref ar, .int (nI n)])) ∧ h ar = some (10, .inl (.object "PolicyDesk$ClassRow", 14, .inr (.inr (.inr (.inr f))))) ∧ (∀ i, i < n → f i = some (A i)) ∧ G.2.1 ≤ x ∧ G.2.1 ≤ ar ∧ 2 ≤ n ∧ pd_Rows G h A n R
theorem pd_Cls.kx {G : pd_G} {ts : List Nat} {h h' : pd_H} {x : Nat} {A : Nat → Nat} {n : Nat} {R : Nat → pd_cr} (q : pd_Cls G h x A n R) (k : pd_kx ts h h') (n6 : 6 ∉ ts) (n10 : 10 ∉ ts) (n0 : 0 ∉ ts) : pd_Cls G h' x A n R := by
  obtain ⟨ar, f, h1, h2, h3, h4, h5, h6, h7⟩ := q
  exact ⟨ar, f, k _ _ h1 n6, k _ _ h2 n10, h3, h4, h5, h6, h7.kx k n0⟩
/-- the number of a row, for any int -/
def pd_ix (n : Nat) (c : Int32) : Option Nat := if c < 0 then none else if c < nI n then some c.toNatClampNeg else none
theorem pd_nn_i {c : Int32} (h : ¬ c < 0) : nI c.toNatClampNeg = c := by
  have h0 : 0 ≤ c.toInt := by
    have := Int32.not_lt.mp h
    simpa using Int32.le_iff_toInt_le.mp this
  have hlt := c.toInt_lt
  apply Int32.toInt_inj.mp
  rw [nI_toInt (by show c.toInt.toNat < 2 ^ 31; omega)]
  show ((c.toInt.toNat : Nat) : Int) = c.toInt
  omega
theorem pd_ix_lt {n : Nat} {c : Int32} (h0 : ¬ c < 0) (h : c < nI n) (hn : n < 2 ^ 31) : c.toNatClampNeg < n := by
  have hb : c.toNatClampNeg < 2 ^ 31 := by have := c.toInt_lt; show c.toInt.toNat < 2 ^ 31; omega
  exact (nI_ltI hb hn).mp (by rw [pd_nn_i h0]; exact h)
theorem pd_ixs {n i : Nat} {c : Int32} (h : pd_ix n c = some i) (hn : n < 2 ^ 31 := by omega) : i < n := by
  unfold pd_ix at h
  split at h
  · cases h
  · split at h
    · cases h
      exact pd_ix_lt (by assumption) (by assumption) hn
    · cases h
theorem pd_om {r E : Option Nat} {B : Nat → Nat} (e : r = E.map B) : (E = none ∧ r = none) ∨ ∃ k, E = some k ∧ r = some (B k) := by
  cases E with
  | none => exact Or.inl ⟨rfl, e⟩
  | some k => exact Or.inr ⟨k, rfl, e⟩
def gr_find (R : Nat → pd_cr) (n : Nat) (cs : List Nat) : Option Nat := (List.range n).find? (fun i => decide ((R i).1 = cs))
theorem gr_fi_some {n i : Nat} {f : Nat → Bool} (hi : i < n) (hj : ∀ j, j < i → f j = false) (hx : f i = true) : (List.range n).find? f = some i := by
  rw [List.find?_range_eq_some]
  exact ⟨hx, List.mem_range.mpr hi, fun j hlt => by rw [hj j hlt]; rfl⟩
theorem gr_fi_none {n : Nat} {f : Nat → Bool} (hj : ∀ j, j < n → f j = false) : (List.range n).find? f = none := by
  rw [List.find?_range_eq_none]
  intro j hlt
  rw [hj j hlt]
  rfl
theorem gr_fi_lt {n i : Nat} {f : Nat → Bool} (h : (List.range n).find? f = some i) : i < n := by
  rw [List.find?_range_eq_some] at h
  exact List.mem_range.mp h.2.1
/-- the answer of an add of a class, the rows behind it -/
def gr_cadd (n : Nat) (R : Nat → pd_cr) (r : pd_cr) : Int32 × Nat × (Nat → pd_cr) := if n < 14 then (nI n, n + 1, pd_fu R n r) else (-5, n, R)
theorem gr_cadd_y {n : Nat} {R : Nat → pd_cr} {r : pd_cr} (h : n < 14) : gr_cadd n R r = (nI n, n + 1, pd_fu R n r) := if_pos h
theorem gr_cadd_n {n : Nat} {R : Nat → pd_cr} {r : pd_cr} (h : ¬ n < 14) : gr_cadd n R r = (-5, n, R) := if_neg h
theorem d_p5m2_0 : decode prog_5_method_2_code 0 = .ok (.iload_n 1, 1) := by decide +kernel
theorem d_p5m2_1 : decode prog_5_method_2_code 1 = .ok (.ifCond .lt 11, 3) := by decide +kernel
theorem d_p5m2_4 : decode prog_5_method_2_code 4 = .ok (.iload_n 1, 1) := by decide +kernel
theorem d_p5m2_5 : decode prog_5_method_2_code 5 = .ok (.aload_n 0, 1) := by decide +kernel
theorem d_p5m2_6 : decode prog_5_method_2_code 6 = .ok (.getfield 31, 3) := by decide +kernel
theorem d_p5m2_9 : decode prog_5_method_2_code 9 = .ok (.if_icmp .lt 7, 3) := by decide +kernel
theorem d_p5m2_12 : decode prog_5_method_2_code 12 = .ok (.aconst_null, 1) := by decide +kernel
theorem d_p5m2_13 : decode prog_5_method_2_code 13 = .ok (.goto 9, 3) := by decide +kernel
theorem d_p5m2_16 : decode prog_5_method_2_code 16 = .ok (.aload_n 0, 1) := by decide +kernel
theorem d_p5m2_17 : decode prog_5_method_2_code 17 = .ok (.getfield 27, 3) := by decide +kernel
theorem d_p5m2_20 : decode prog_5_method_2_code 20 = .ok (.iload_n 1, 1) := by decide +kernel
theorem d_p5m2_21 : decode prog_5_method_2_code 21 = .ok (.aaload, 1) := by decide +kernel
theorem d_p5m2_22 : decode prog_5_method_2_code 22 = .ok (.areturn, 1) := by decide +kernel
abbrev y_Classes_at : MethodName := ⟨"PolicyDesk$Classes", "at", "(I)LPolicyDesk$ClassRow;"⟩
theorem ok_Classes_at : pd_ok y_Classes_at prog_5_method_2_code 2 (some (.object "PolicyDesk$ClassRow")) 1 := ⟨mT_1085, mT_6, by decide, by decide +kernel⟩
abbrev rm_Classes_at : Room := { frames := 0, cells := 0, slots := 0, locals := 0 }
set_option maxHeartbeats 4000000 in
set_option maxRecDepth 100000 in
theorem c_Classes_at (l : Launch) (G : pd_G) (h : pd_H) {x : Nat} {A : Nat → Nat} {n : Nat} {R : Nat → pd_cr} {c0 : Int32} (hC : pd_Cls G h x A n R) : pd_M l y_Classes_at prog_5_method_2_code 2 (some (.object "PolicyDesk$ClassRow")) rm_Classes_at G h [.ref x, .int c0] va_rf (fun r h1 => r = (pd_ix n c0).map A ∧ h = h1) := by
  refine pd_M.of (by decide) (Nat.le_of_ble_eq_true rfl) ?_
  intro p e s m below meth c X hmn w ls hl
  have hx := X.1
  have hb := X.2.1
  have hl : lv_has ls 2 [(0, .ref x), (1, .int c0)] := hl
  obtain ⟨ar, f, hx0, har, hfA, hz_x, hz_ar, hn2, hR⟩ := id hC
  have hcw := hR.2.2
  have hAi := hR.2.1
  have hn14 := hcw.1
  refine lv_iload_n hx hb d_p5m2_0 rfl (lv_at hl 1 rfl) ?_
  refine lv_if_lt (tgt := 12) hx hb d_p5m2_1 (by decide) (fun q1 => ?_) (fun q1 => ?_)
  · -- taken: 12
    refine lv_null hx hb d_p5m2_12 ?_
    refine lv_goto (tgt := 22) hx hb d_p5m2_13 (by decide) ?_
    refine W.eq (g2 := F0 m 22 ls [va_rf none]) rfl ?_
    exact pd_oret (v := none) X (Or.inl ⟨_, rfl⟩) w ⟨by unfold pd_ix; rw [if_pos q1]; rfl, rfl⟩ (by decide) (by decide) d_p5m2_22
  · -- not taken: 4
    refine lv_iload_n hx hb d_p5m2_4 rfl (lv_at hl 1 rfl) ?_
    refine lv_aload_n hx hb d_p5m2_5 rfl (lv_at hl 0 rfl) ?_
    refine pd_get X w hx0 rfl 3 (by decide) mT_298 rfl rfl d_p5m2_6 ?_
    refine lv_icmp_lt (tgt := 16) hx hb d_p5m2_9 (by decide) (fun q2 => ?_) (fun q2 => ?_)
    · -- taken: 16
      refine lv_aload_n hx hb d_p5m2_16 rfl (lv_at hl 0 rfl) ?_
      refine pd_get X w hx0 rfl 2 (by decide) mT_297 rfl rfl d_p5m2_17 ?_
      refine lv_iload_n hx hb d_p5m2_20 rfl (lv_at hl 1 rfl) ?_
      have hlt := pd_ix_lt q1 q2 (by omega)
      refine pd_top (v' := .int (nI c0.toNatClampNeg)) (by rw [pd_nn_i q1]) ?_
      refine pd_aald X w har rfl (by omega) (by omega) d_p5m2_21 ?_
      exact pd_oret (v := (f c0.toNatClampNeg)) X (Or.inl ⟨_, rfl⟩) w ⟨by unfold pd_ix; rw [if_neg q1, if_pos q2, hfA _ hlt]; rfl, rfl⟩ (by decide) (by decide) d_p5m2_22
    · -- not taken: 12
      refine lv_null hx hb d_p5m2_12 ?_
      refine lv_goto (tgt := 22) hx hb d_p5m2_13 (by decide) ?_
      refine W.eq (g2 := F0 m 22 ls [va_rf none]) rfl ?_
      exact pd_oret (v := none) X (Or.inl ⟨_, rfl⟩) w ⟨by unfold pd_ix; rw [if_neg q1, if_neg q2]; rfl, rfl⟩ (by decide) (by decide) d_p5m2_22
theorem d_p5m3_0 : decode prog_5_method_3_code 0 = .ok (.iconst 0, 1) := by decide +kernel
theorem d_p5m3_1 : decode prog_5_method_3_code 1 = .ok (.istore_n 2, 1) := by decide +kernel
theorem d_p5m3_2 : decode prog_5_method_3_code 2 = .ok (.iload_n 2, 1) := by decide +kernel
theorem d_p5m3_3 : decode prog_5_method_3_code 3 = .ok (.aload_n 0, 1) := by decide +kernel
theorem d_p5m3_4 : decode prog_5_method_3_code 4 = .ok (.getfield 31, 3) := by decide +kernel
theorem d_p5m3_7 : decode prog_5_method_3_code 7 = .ok (.if_icmp .ge 32, 3) := by decide +kernel
theorem d_p5m3_10 : decode prog_5_method_3_code 10 = .ok (.aload_n 0, 1) := by decide +kernel
theorem d_p5m3_11 : decode prog_5_method_3_code 11 = .ok (.getfield 27, 3) := by decide +kernel
theorem d_p5m3_14 : decode prog_5_method_3_code 14 = .ok (.iload_n 2, 1) := by decide +kernel
theorem d_p5m3_15 : decode prog_5_method_3_code 15 = .ok (.aaload, 1) := by decide +kernel
theorem d_p5m3_16 : decode prog_5_method_3_code 16 = .ok (.getfield 35, 3) := by decide +kernel
theorem d_p5m3_19 : decode prog_5_method_3_code 19 = .ok (.aload_n 1, 1) := by decide +kernel
theorem d_p5m3_20 : decode prog_5_method_3_code 20 = .ok (.invokevirtual 39, 3) := by decide +kernel
theorem d_p5m3_23 : decode prog_5_method_3_code 23 = .ok (.ifCond .eq 10, 3) := by decide +kernel
theorem d_p5m3_26 : decode prog_5_method_3_code 26 = .ok (.aload_n 0, 1) := by decide +kernel
theorem d_p5m3_27 : decode prog_5_method_3_code 27 = .ok (.getfield 27, 3) := by decide +kernel
theorem d_p5m3_30 : decode prog_5_method_3_code 30 = .ok (.iload_n 2, 1) := by decide +kernel
theorem d_p5m3_31 : decode prog_5_method_3_code 31 = .ok (.aaload, 1) := by decide +kernel
theorem d_p5m3_32 : decode prog_5_method_3_code 32 = .ok (.areturn, 1) := by decide +kernel
theorem d_p5m3_33 : decode prog_5_method_3_code 33 = .ok (.iinc 2 1, 3) := by decide +kernel
theorem d_p5m3_36 : decode prog_5_method_3_code 36 = .ok (.goto (-34), 3) := by decide +kernel
theorem d_p5m3_39 : decode prog_5_method_3_code 39 = .ok (.aconst_null, 1) := by decide +kernel
theorem d_p5m3_40 : decode prog_5_method_3_code 40 = .ok (.areturn, 1) := by decide +kernel
abbrev y_Classes_find : MethodName := ⟨"PolicyDesk$Classes", "find", "(Ljava/lang/String;)LPolicyDesk$ClassRow;"⟩
theorem ok_Classes_find : pd_ok y_Classes_find prog_5_method_3_code 3 (some (.object "PolicyDesk$ClassRow")) 1 := ⟨mT_775, mT_6, by decide, by decide +kernel⟩
abbrev rm_Classes_find : Room := { frames := 2, cells := 0, slots := 0, locals := 44 }
set_option maxHeartbeats 4000000 in
set_option maxRecDepth 100000 in
theorem lp_Classes_find_2 (l : Launch) (G : pd_G) (h : pd_H) {x : Nat} {A : Nat → Nat} {n : Nat} {R : Nat → pd_cr} {a : Nat} {cs : List Nat} (hC : pd_Cls G h x A n R) (hS : pd_Str h a cs) {p : Program} {e : Env} {s : State} {m : MethodId} {below : List Frame} {meth : Method} {c : Code} (X : pd_B p s m [.ref x, .ref a].toArray meth c G y_Classes_find.cls prog_5_method_3_code 3 (some (.object "PolicyDesk$ClassRow"))) (hmn : meth.name = y_Classes_find.name) :
    ∀ (kk9 : Nat) (i : Nat), (i ≤ n) → (∀ j, j < i → decide ((R j).1 = cs) = false) → n - i < kk9 → ∀ (H : Heap) (locs : List Loc), pd_w G s H locs h → ∀ ls : Array Slot, lv_has ls 3 [(2, .int (nI i)), (0, .ref x), (1, .ref a)] → W p l e rm_Classes_find s m [.ref x, .ref a].toArray below meth c H locs 0 0 (MQ below (pd_Q G va_rf (fun r h1 => r = (gr_find R n cs).map A ∧ h = h1)) [.ref x, .ref a].toArray s rm_Classes_find.cells rm_Classes_find.slots (fun q => G.2.1 ≤ q)) (F0 m 2 ls []) := by
  have hx := X.1
  have hb := X.2.1
  obtain ⟨ar, f, hx0, har, hfA, hz_x, hz_ar, hn2, hR⟩ := id hC
  have hcw := hR.2.2
  have hAi := hR.2.1
  have hn14 := hcw.1
  intro kk9
  induction kk9 with
  | zero => intros; omega
  | succ kk9 ih =>
    intro i hi hj hmu H locs w ls hl
    refine lv_iload_n hx hb d_p5m3_2 rfl (lv_at hl 0 rfl) ?_
    refine lv_aload_n hx hb d_p5m3_3 rfl (lv_at hl 1 rfl) ?_
    refine pd_get X w hx0 rfl 3 (by decide) mT_298 rfl rfl d_p5m3_4 ?_
    refine pd_jge (tgt := 39) hx hb d_p5m3_7 (by decide) (by omega) (by omega) (fun q1 => ?_) (fun q1 => ?_)
    · -- taken: 39
      refine lv_null hx hb d_p5m3_39 ?_
      refine W.eq (g2 := F0 m 40 ls [va_rf none]) rfl ?_
      exact pd_oret (v := none) X (Or.inl ⟨_, rfl⟩) w ⟨by unfold gr_find; rw [gr_fi_none (fun j hj2 => hj j (by omega))]; rfl, rfl⟩ (by decide) (by decide) d_p5m3_40
    · -- not taken: 10
      refine lv_aload_n hx hb d_p5m3_10 rfl (lv_at hl 1 rfl) ?_
      refine pd_get X w hx0 rfl 2 (by decide) mT_297 rfl rfl d_p5m3_11 ?_
      refine lv_iload_n hx hb d_p5m3_14 rfl (lv_at hl 0 rfl) ?_
      refine pd_aald X w har rfl (by omega) (by omega) d_p5m3_15 ?_
      refine pd_top (v' := .ref (A i)) (by rw [hfA i (by omega)]; rfl) ?_
      obtain ⟨nm2, fx3, f4, f5, f6⟩ := hR.1 i (by omega)
      obtain ⟨v7, g8, f9, f10, gf11, gc12, gl13⟩ := id f5
      obtain ⟨v14, cap15, g16, f17, z18, z19, z20, z21, z22⟩ := id f6
      refine pd_get X w f4 rfl 1 (by decide) mT_256 rfl rfl d_p5m3_16 ?_
      refine lv_aload_n hx hb d_p5m3_19 rfl (lv_at hl 2 rfl) ?_
      refine pd_cV (a := nm2) (As := [.ref a]) (rest := []) X w f9 rfl (c_String_equals l G h (by assumption) (by assumption)) ok_String_equals ⟨mT_613, mT_614⟩ mT_776 ⟨by decide, by decide⟩ rfl hl.1 rfl (Nat.le_of_ble_eq_true rfl) d_p5m3_20 ⟨by decide, by decide⟩ (fun r23 h24 H locs hp25 w => ?_)
      refine W.widen (k := 0) (n := 0) (by decide) (by decide) ?_
      obtain ⟨e26, rfl⟩ := hp25
      refine pd_beq (tgt := 33) hx hb d_p5m3_23 (by decide) (fun q27 => ?_) (fun q27 => ?_)
      · -- taken: 33
        refine pd_iinc (k := 0) (d := 1) (lv' := [(2, .int (nI (i + 1))), (0, .ref x), (1, .ref a)]) hx hb d_p5m3_33 (by decide) hl rfl (by decide) rfl (fun ls hl => ?_)
        refine lv_goto (tgt := 2) hx hb d_p5m3_36 (by decide) ?_
        exact ih (i + 1) (by omega) (fun j hj2 => by by_cases e9 : j = i; subst e9; exact e26.symm.trans q27; exact hj j (by omega)) (by omega) _ _ w ls (lv_sub hl [0, 1, 2] rfl)
      · -- not taken: 26
        refine lv_aload_n hx hb d_p5m3_26 rfl (lv_at hl 1 rfl) ?_
        refine pd_get X w hx0 rfl 2 (by decide) mT_297 rfl rfl d_p5m3_27 ?_
        refine lv_iload_n hx hb d_p5m3_30 rfl (lv_at hl 0 rfl) ?_
        refine pd_aald X w har rfl (by omega) (by omega) d_p5m3_31 ?_
        refine pd_top (v' := .ref (A i)) (by rw [hfA i (by omega)]; rfl) ?_
        refine W.eq (g2 := F0 m 32 ls [va_rf (some (A i))]) rfl ?_
        exact pd_oret (v := (some (A i))) X (Or.inl ⟨_, rfl⟩) w ⟨by unfold gr_find; rw [gr_fi_some (by omega) hj (e26.symm.trans q27)]; rfl, rfl⟩ (by decide) (by decide) d_p5m3_32
set_option maxHeartbeats 4000000 in
set_option maxRecDepth 100000 in
theorem c_Classes_find (l : Launch) (G : pd_G) (h : pd_H) {x : Nat} {A : Nat → Nat} {n : Nat} {R : Nat → pd_cr} {a : Nat} {cs : List Nat} (hC : pd_Cls G h x A n R) (hS : pd_Str h a cs) : pd_M l y_Classes_find prog_5_method_3_code 3 (some (.object "PolicyDesk$ClassRow")) rm_Classes_find G h [.ref x, .ref a] va_rf (fun r h1 => r = (gr_find R n cs).map A ∧ h = h1) := by
  refine pd_M.of (by decide) (Nat.le_of_ble_eq_true rfl) ?_
  intro p e s m below meth c X hmn w ls hl
  have hx := X.1
  have hb := X.2.1
  have hl : lv_has ls 3 [(0, .ref x), (1, .ref a)] := hl
  obtain ⟨ar, f, hx0, har, hfA, hz_x, hz_ar, hn2, hR⟩ := id hC
  have hcw := hR.2.2
  have hAi := hR.2.1
  have hn14 := hcw.1
  refine lv_iconst (v := nI 0) hx hb d_p5m3_0 (by decide) ?_
  refine lv_istore_n (lv' := [(2, .int (nI 0)), (0, .ref x), (1, .ref a)]) hx hb d_p5m3_1 rfl hl (by decide) rfl (fun ls hl => ?_)
  exact lp_Classes_find_2 l G h hC hS X hmn (n + 1) 0 (by omega) (fun j hj => absurd hj (Nat.not_lt_zero j)) (by omega) _ _ w ls (lv_sub hl [0, 1, 2] rfl)
theorem d_p5m5_0 : decode prog_5_method_5_code 0 = .ok (.aload_n 0, 1) := by decide +kernel
theorem d_p5m5_1 : decode prog_5_method_5_code 1 = .ok (.getfield 24, 3) := by decide +kernel
theorem d_p5m5_4 : decode prog_5_method_5_code 4 = .ok (.aload_n 1, 1) := by decide +kernel
theorem d_p5m5_5 : decode prog_5_method_5_code 5 = .ok (.invokevirtual 45, 3) := by decide +kernel
theorem d_p5m5_8 : decode prog_5_method_5_code 8 = .ok (.ifCond .ne 14, 3) := by decide +kernel
theorem d_p5m5_11 : decode prog_5_method_5_code 11 = .ok (.aload_n 1, 1) := by decide +kernel
theorem d_p5m5_12 : decode prog_5_method_5_code 12 = .ok (.aload_n 0, 1) := by decide +kernel
theorem d_p5m5_13 : decode prog_5_method_5_code 13 = .ok (.getfield 24, 3) := by decide +kernel
theorem d_p5m5_16 : decode prog_5_method_5_code 16 = .ok (.invokevirtual 45, 3) := by decide +kernel
theorem d_p5m5_19 : decode prog_5_method_5_code 19 = .ok (.ifCond .eq 7, 3) := by decide +kernel
theorem d_p5m5_22 : decode prog_5_method_5_code 22 = .ok (.iconst 1, 1) := by decide +kernel
theorem d_p5m5_23 : decode prog_5_method_5_code 23 = .ok (.goto 4, 3) := by decide +kernel
theorem d_p5m5_26 : decode prog_5_method_5_code 26 = .ok (.iconst 0, 1) := by decide +kernel
theorem d_p5m5_27 : decode prog_5_method_5_code 27 = .ok (.ireturn, 1) := by decide +kernel
abbrev y_Classes_couldCatchBudget : MethodName := ⟨"PolicyDesk$Classes", "couldCatchBudget", "(LPolicyDesk$ClassRow;)Z"⟩
theorem ok_Classes_couldCatchBudget : pd_ok y_Classes_couldCatchBudget prog_5_method_5_code 2 (some .boolean) 1 := ⟨mT_987, mT_6, by decide, by decide +kernel⟩
abbrev rm_Classes_couldCatchBudget : Room := { frames := 1, cells := 0, slots := 0, locals := 21 }
set_option maxHeartbeats 4000000 in
set_option maxRecDepth 100000 in
theorem c_Classes_couldCatchBudget (l : Launch) (G : pd_G) (h : pd_H) {x : Nat} {A : Nat → Nat} {n : Nat} {R : Nat → pd_cr} {j : Nat} (hC : pd_Cls G h x A n R) (hjn : j < n) : pd_M l y_Classes_couldCatchBudget prog_5_method_5_code 2 (some .boolean) rm_Classes_couldCatchBudget G h [.ref x, .ref (A j)] pd_vb (fun r h1 => r = (gr_bel R 1 j || gr_bel R j 1) ∧ h = h1) := by
  refine pd_M.of (by decide) (Nat.le_of_ble_eq_true rfl) ?_
  intro p e s m below meth c X hmn w ls hl
  have hx := X.1
  have hb := X.2.1
  have hl : lv_has ls 2 [(0, .ref x), (1, .ref (A j))] := hl
  obtain ⟨ar, f, hx0, har, hfA, hz_x, hz_ar, hn2, hR⟩ := id hC
  have hcw := hR.2.2
  have hAi := hR.2.1
  have hn14 := hcw.1
  refine lv_aload_n hx hb d_p5m5_0 rfl (lv_at hl 0 rfl) ?_
  refine pd_get X w hx0 rfl 1 (by decide) mT_296 rfl rfl d_p5m5_1 ?_
  refine lv_aload_n hx hb d_p5m5_4 rfl (lv_at hl 1 rfl) ?_
  obtain ⟨nm4, fx5, f6, f7, f8⟩ := hR.1 1 (by omega)
  obtain ⟨v9, g10, f11, f12, gf13, gc14, gl15⟩ := id f7
  obtain ⟨v16, cap17, g18, f19, z20, z21, z22, z23, z24⟩ := id f8
  refine pd_cV (a := (A 1)) (As := [.ref (A j)]) (rest := []) X w f6 rfl (c_ClassRow_isBelow l G h (by assumption) (by omega) (by omega)) ok_ClassRow_isBelow ⟨mT_989, mT_990⟩ mT_988 ⟨by decide, by decide⟩ rfl hl.1 rfl (Nat.le_of_ble_eq_true rfl) d_p5m5_5 ⟨by decide, by decide⟩ (fun r1 h2 H locs hp3 w => ?_)
  refine W.widen (k := 0) (n := 0) (by decide) (by decide) ?_
  obtain ⟨e25, rfl⟩ := hp3
  refine pd_bne (tgt := 22) hx hb d_p5m5_8 (by decide) (fun q26 => ?_) (fun q26 => ?_)
  · -- taken: 22
    refine lv_iconst (v := nI 1) hx hb d_p5m5_22 (by decide) ?_
    refine lv_goto (tgt := 27) hx hb d_p5m5_23 (by decide) ?_
    refine W.eq (g2 := F0 m 27 ls [.int (pd_b true)]) rfl ?_
    exact pd_zret (v := true) X w ⟨by rw [← e25, q26]; rfl, rfl⟩ (by decide) (by decide) d_p5m5_27
  · -- not taken: 11
    refine lv_aload_n hx hb d_p5m5_11 rfl (lv_at hl 1 rfl) ?_
    refine lv_aload_n hx hb d_p5m5_12 rfl (lv_at hl 0 rfl) ?_
    refine pd_get X w hx0 rfl 1 (by decide) mT_296 rfl rfl d_p5m5_13 ?_
    obtain ⟨nm30, fx31, f32, f33, f34⟩ := hR.1 j (by omega)
    obtain ⟨v35, g36, f37, f38, gf39, gc40, gl41⟩ := id f33
    obtain ⟨v42, cap43, g44, f45, z46, z47, z48, z49, z50⟩ := id f34
    refine pd_cV (a := (A j)) (As := [.ref (A 1)]) (rest := []) X w f32 rfl (c_ClassRow_isBelow l G h (by assumption) (by omega) (by omega)) ok_ClassRow_isBelow ⟨mT_989, mT_990⟩ mT_988 ⟨by decide, by decide⟩ rfl hl.1 rfl (Nat.le_of_ble_eq_true rfl) d_p5m5_16 ⟨by decide, by decide⟩ (fun r27 h28 H locs hp29 w => ?_)
    refine W.widen (k := 0) (n := 0) (by decide) (by decide) ?_
    obtain ⟨e51, rfl⟩ := hp29
    refine pd_beq (tgt := 26) hx hb d_p5m5_19 (by decide) (fun q52 => ?_) (fun q52 => ?_)
    · -- taken: 26
      refine lv_iconst (v := nI 0) hx hb d_p5m5_26 (by decide) ?_
      refine W.eq (g2 := F0 m 27 ls [.int (pd_b false)]) rfl ?_
      exact pd_zret (v := false) X w ⟨by rw [← e25, q26, ← e51, q52]; rfl, rfl⟩ (by decide) (by decide) d_p5m5_27
    · -- not taken: 22
      refine lv_iconst (v := nI 1) hx hb d_p5m5_22 (by decide) ?_
      refine lv_goto (tgt := 27) hx hb d_p5m5_23 (by decide) ?_
      refine W.eq (g2 := F0 m 27 ls [.int (pd_b true)]) rfl ?_
      exact pd_zret (v := true) X w ⟨by rw [← e25, q26, ← e51, q52]; rfl, rfl⟩ (by decide) (by decide) d_p5m5_27
theorem d_p5m4_0 : decode prog_5_method_4_code 0 = .ok (.aload_n 0, 1) := by decide +kernel
theorem d_p5m4_1 : decode prog_5_method_4_code 1 = .ok (.getfield 31, 3) := by decide +kernel
theorem d_p5m4_4 : decode prog_5_method_4_code 4 = .ok (.bipush 14, 2) := by decide +kernel
theorem d_p5m4_6 : decode prog_5_method_4_code 6 = .ok (.if_icmp .lt 6, 3) := by decide +kernel
theorem d_p5m4_9 : decode prog_5_method_4_code 9 = .ok (.bipush (-5), 2) := by decide +kernel
theorem d_p5m4_11 : decode prog_5_method_4_code 11 = .ok (.ireturn, 1) := by decide +kernel
theorem d_p5m4_12 : decode prog_5_method_4_code 12 = .ok (.aload_n 0, 1) := by decide +kernel
theorem d_p5m4_13 : decode prog_5_method_4_code 13 = .ok (.getfield 27, 3) := by decide +kernel
theorem d_p5m4_16 : decode prog_5_method_4_code 16 = .ok (.aload_n 0, 1) := by decide +kernel
theorem d_p5m4_17 : decode prog_5_method_4_code 17 = .ok (.getfield 31, 3) := by decide +kernel
theorem d_p5m4_20 : decode prog_5_method_4_code 20 = .ok (.new 9, 3) := by decide +kernel
theorem d_p5m4_23 : decode prog_5_method_4_code 23 = .ok (.dup, 1) := by decide +kernel
theorem d_p5m4_24 : decode prog_5_method_4_code 24 = .ok (.aload_n 0, 1) := by decide +kernel
theorem d_p5m4_25 : decode prog_5_method_4_code 25 = .ok (.getfield 31, 3) := by decide +kernel
theorem d_p5m4_28 : decode prog_5_method_4_code 28 = .ok (.aload_n 1, 1) := by decide +kernel
theorem d_p5m4_29 : decode prog_5_method_4_code 29 = .ok (.iload_n 2, 1) := by decide +kernel
theorem d_p5m4_30 : decode prog_5_method_4_code 30 = .ok (.aload_n 3, 1) := by decide +kernel
theorem d_p5m4_31 : decode prog_5_method_4_code 31 = .ok (.aload 4, 2) := by decide +kernel
theorem d_p5m4_33 : decode prog_5_method_4_code 33 = .ok (.aload 5, 2) := by decide +kernel
theorem d_p5m4_35 : decode prog_5_method_4_code 35 = .ok (.invokespecial 13, 3) := by decide +kernel
theorem d_p5m4_38 : decode prog_5_method_4_code 38 = .ok (.aastore, 1) := by decide +kernel
theorem d_p5m4_39 : decode prog_5_method_4_code 39 = .ok (.aload_n 0, 1) := by decide +kernel
theorem d_p5m4_40 : decode prog_5_method_4_code 40 = .ok (.dup, 1) := by decide +kernel
theorem d_p5m4_41 : decode prog_5_method_4_code 41 = .ok (.getfield 31, 3) := by decide +kernel
theorem d_p5m4_44 : decode prog_5_method_4_code 44 = .ok (.iconst 1, 1) := by decide +kernel
theorem d_p5m4_45 : decode prog_5_method_4_code 45 = .ok (.iadd, 1) := by decide +kernel
theorem d_p5m4_46 : decode prog_5_method_4_code 46 = .ok (.putfield 31, 3) := by decide +kernel
theorem d_p5m4_49 : decode prog_5_method_4_code 49 = .ok (.aload_n 0, 1) := by decide +kernel
theorem d_p5m4_50 : decode prog_5_method_4_code 50 = .ok (.getfield 31, 3) := by decide +kernel
theorem d_p5m4_53 : decode prog_5_method_4_code 53 = .ok (.iconst 1, 1) := by decide +kernel
theorem d_p5m4_54 : decode prog_5_method_4_code 54 = .ok (.isub, 1) := by decide +kernel
theorem d_p5m4_55 : decode prog_5_method_4_code 55 = .ok (.ireturn, 1) := by decide +kernel
abbrev y_Classes_add : MethodName := ⟨"PolicyDesk$Classes", "add", "(Ljava/lang/String;ZLPolicyDesk$ClassRow;LPolicyDesk$ClassRow;LPolicyDesk$ClassRow;)I"⟩
theorem ok_Classes_add : pd_ok y_Classes_add prog_5_method_4_code 6 (some .int) 5 := ⟨mT_783, mT_6, by decide, by decide +kernel⟩
abbrev rm_Classes_add : Room := { frames := 11, cells := 30, slots := 432, locals := 263 }
set_option maxHeartbeats 4000000 in
set_option maxRecDepth 100000 in
theorem c_Classes_add (l : Launch) (G : pd_G) (h : pd_H) {x : Nat} {A : Nat → Nat} {n : Nat} {R : Nat → pd_cr} {a : Nat} {cs : List Nat} {bi : Bool} {ab fi se : Option Nat} (hC : pd_Cls G h x A n R) (hS : pd_Str h a cs) (hab : ∀ k, ab = some k → k < n) (hfi : ∀ k, fi = some k → k < n) (hse : ∀ k, se = some k → k < n) : pd_M l y_Classes_add prog_5_method_4_code 6 (some .int) rm_Classes_add G h [.ref x, .ref a, .int (pd_b bi), va_rf (ab.map A), va_rf (fi.map A), va_rf (se.map A)] Value.int (fun r h1 => pd_kx [6, 7, 8, 9, 10] h h1 ∧ r = (gr_cadd n R (gr_row R n cs bi ab fi se)).1 ∧ ∃ A2, (∀ i, i < n → A2 i = A i) ∧ pd_Cls G h1 x A2 (gr_cadd n R (gr_row R n cs bi ab fi se)).2.1 (gr_cadd n R (gr_row R n cs bi ab fi se)).2.2) := by
  refine pd_M.of (by decide) (by cases ab <;> cases fi <;> cases se <;> exact Nat.le_of_ble_eq_true rfl) ?_
  intro p e s m below meth c X hmn w ls hl
  have hx := X.1
  have hb := X.2.1
  have hl : lv_has ls 6 [(0, .ref x), (1, .ref a), (2, .int (pd_b bi)), (3, va_rf (ab.map A)), (4, va_rf (fi.map A)), (5, va_rf (se.map A))] := by simp only [lv_args, pd_cat] at hl; simpa [Value.category] using hl
  obtain ⟨ar, f, hx0, har, hfA, hz_x, hz_ar, hn2, hR⟩ := id hC
  have hcw := hR.2.2
  have hAi := hR.2.1
  have hn14 := hcw.1
  refine lv_aload_n hx hb d_p5m4_0 rfl (lv_at hl 0 rfl) ?_
  refine pd_get X w hx0 rfl 3 (by decide) mT_298 rfl rfl d_p5m4_1 ?_
  refine lv_bipush (v := nI 14) hx hb d_p5m4_4 (by decide) ?_
  refine pd_jlt (tgt := 12) hx hb d_p5m4_6 (by decide) (by omega) (by omega) (fun q1 => ?_) (fun q1 => ?_)
  · -- taken: 12
    refine lv_aload_n hx hb d_p5m4_12 rfl (lv_at hl 0 rfl) ?_
    refine pd_get X w hx0 rfl 2 (by decide) mT_297 rfl rfl d_p5m4_13 ?_
    refine lv_aload_n hx hb d_p5m4_16 rfl (lv_at hl 0 rfl) ?_
    refine pd_get X w hx0 rfl 3 (by decide) mT_298 rfl rfl d_p5m4_17 ?_
    refine pd_new (ci := 2) (C := "PolicyDesk$ClassRow") (T := pd_F2) (N := 9) (fs := [.int (nI 0), .null, .int (nI 0), .null, .null, .null, .null, .int (nI 0), .int (nI 0)]) 9 X w rfl mT_79 mT_80 mT_7 (pd_hfs (by decide +kernel)) (by decide) (by decide) d_p5m4_20 (fun q2 H hq3 hz4 w => ?_)
    refine W.widen (k := 1) (n := 9) (by decide) (by decide) ?_
    obtain ⟨h5, u8⟩ : ∃ z, z = pd_up h q2 (9, .inr (2, [.int (nI 0), .null, .int (nI 0), .null, .null, .null, .null, .int (nI 0), .int (nI 0)])) := ⟨_, rfl⟩
    rw [← u8] at w
    have k6 : pd_kx [] h h5 := by rw [u8]; exact pd_new_kx hq3
    have f7 : h5 q2 = some (9, .inr (2, [.int (nI 0), .null, .int (nI 0), .null, .null, .null, .null, .int (nI 0), .int (nI 0)])) := by rw [u8]; exact pd_up_s _ _ _
    have f9 := k6 _ _ hx0 List.not_mem_nil
    have f10 := k6 _ _ har List.not_mem_nil
    have f11 := hR.kx k6 List.not_mem_nil
    have f12 := hC.kx k6 List.not_mem_nil List.not_mem_nil List.not_mem_nil
    have f13 := hS.kx k6 List.not_mem_nil
    refine lv_dup hx hb d_p5m4_23 rfl ?_
    refine lv_aload_n hx hb d_p5m4_24 rfl (lv_at hl 0 rfl) ?_
    refine pd_get X w f9 rfl 3 (by decide) mT_298 rfl rfl d_p5m4_25 ?_
    refine lv_aload_n hx hb d_p5m4_28 rfl (lv_at hl 1 rfl) ?_
    refine lv_iload_n hx hb d_p5m4_29 rfl (lv_at hl 2 rfl) ?_
    refine pd_oload_n hx hb d_p5m4_30 rfl (lv_at hl 3 rfl) ?_
    refine pd_oload hx hb d_p5m4_31 (lv_at hl 4 rfl) ?_
    refine pd_oload hx hb d_p5m4_33 (lv_at hl 5 rfl) ?_
    refine pd_cI (a := q2) (As := [.int (nI n), .ref a, .int (pd_b bi), va_rf (ab.map A), va_rf (fi.map A), va_rf (se.map A)]) (rest := [.ref q2, .int (nI n), .ref ar]) X w (c_ClassRow_init l G h5 (by assumption) (by assumption) (by assumption) (by assumption) (by assumption) (by assumption) (by assumption) (by omega)) ok_ClassRow_init rfl mT_83 mT_82 ⟨by decide, by decide⟩ rfl hl.1 rfl (Nat.le_of_ble_eq_true rfl) d_p5m4_35 ⟨by decide, by decide⟩ (fun h15 H locs hp16 w => ?_)
    refine W.widen (k := 30) (n := 432) (by decide) (by decide) ?_
    obtain ⟨k17, f18⟩ := hp16
    have f19 := k17 _ _ f9 (show (6 : Nat) ∉ [7, 8, 9] by decide)
    have f20 := k17 _ _ f10 (show (10 : Nat) ∉ [7, 8, 9] by decide)
    have f21 := f11.kx k17 (show (0 : Nat) ∉ [7, 8, 9] by decide)
    have f22 := f12.kx k17 (show (6 : Nat) ∉ [7, 8, 9] by decide) (show (10 : Nat) ∉ [7, 8, 9] by decide) (show (0 : Nat) ∉ [7, 8, 9] by decide)
    have f23 := f13.kx k17 (show (0 : Nat) ∉ [7, 8, 9] by decide)
    obtain ⟨h24, w, k25, f26⟩ := pd_Row.tag w X.2.2.2.2.2.2.2.2.2.1 hz4 f18
    have f27 := k25 _ _ f19 (show (6 : Nat) ∉ [9] by decide)
    have f28 := k25 _ _ f20 (show (10 : Nat) ∉ [9] by decide)
    have f29 := f21.kx k25 (show (0 : Nat) ∉ [9] by decide)
    have f30 := f22.kx k25 (show (6 : Nat) ∉ [9] by decide) (show (10 : Nat) ∉ [9] by decide) (show (0 : Nat) ∉ [9] by decide)
    have f31 := f23.kx k25 (show (0 : Nat) ∉ [9] by decide)
    obtain ⟨nm32, fx33, f34, f35, f36⟩ := id f26
    refine pd_aast X w f28 hz_ar f34 rfl (Or.inl rfl) (by omega) (by omega) d_p5m4_38 (fun H locs w => ?_)
    have w : pd_w G s H locs (pd_up h24 ar (10, .inl ((.object "PolicyDesk$ClassRow"), 14, .inr (.inr (.inr (.inr (va_up f n (some q2)))))))) := w
    obtain ⟨h37, u40⟩ : ∃ z, z = pd_up h24 ar (10, .inl ((.object "PolicyDesk$ClassRow"), 14, .inr (.inr (.inr (.inr (va_up f n (some q2))))))) := ⟨_, rfl⟩
    rw [← u40] at w
    have k38 : pd_kq ar h24 h37 := by rw [u40]; exact pd_up_kq
    have f39 : h37 ar = some (10, .inl ((.object "PolicyDesk$ClassRow"), 14, .inr (.inr (.inr (.inr (va_up f n (some q2))))))) := by rw [u40]; exact pd_up_s _ _ _
    have f41 := k38 _ _ (pd_ne f27 f28 (by simp)) f27
    have f42 := k38 _ _ (pd_ne f34 f28 (by simp)) f34
    have f43 := f29.kx (pd_kq.kx k38 f28) (show (0 : Nat) ∉ [10] by decide)
    have f45 := f31.kx (pd_kq.kx k38 f28) (show (0 : Nat) ∉ [10] by decide)
    have f46 := f26.kx (pd_kq.kx k38 f28) (show (0 : Nat) ∉ [10] by decide) (show (0 : Nat) ∉ [10] by decide)
    refine lv_aload_n hx hb d_p5m4_39 rfl (lv_at hl 0 rfl) ?_
    refine lv_dup hx hb d_p5m4_40 rfl ?_
    refine pd_get X w f41 rfl 3 (by decide) mT_298 rfl rfl d_p5m4_41 ?_
    refine lv_iconst (v := nI 1) hx hb d_p5m4_44 (by decide) ?_
    refine pd_iadd hx hb d_p5m4_45 ?_
    refine pd_put (ty := .int) X w f41 hz_x rfl 3 (by decide) mT_298 rfl rfl (by decide +kernel) rfl rfl (Nat.le_of_ble_eq_true rfl) d_p5m4_46 (fun H locs w => ?_)
    have w : pd_w G s H locs (pd_up h37 x (6, .inr (3, [.ref (A 0), .ref (A 1), .ref ar, .int (nI (n + 1))]))) := w
    obtain ⟨h47, u50⟩ : ∃ z, z = pd_up h37 x (6, .inr (3, [.ref (A 0), .ref (A 1), .ref ar, .int (nI (n + 1))])) := ⟨_, rfl⟩
    rw [← u50] at w
    have k48 : pd_kq x h37 h47 := by rw [u50]; exact pd_up_kq
    have f49 : h47 x = some (6, .inr (3, [.ref (A 0), .ref (A 1), .ref ar, .int (nI (n + 1))])) := by rw [u50]; exact pd_up_s _ _ _
    have f51 := k48 _ _ (pd_ne f42 f41 (by simp)) f42
    have f52 := k48 _ _ (pd_ne f39 f41 (by simp)) f39
    have f53 := f43.kx (pd_kq.kx k48 f41) (show (0 : Nat) ∉ [6] by decide)
    have f54 := f45.kx (pd_kq.kx k48 f41) (show (0 : Nat) ∉ [6] by decide)
    have f55 := f46.kx (pd_kq.kx k48 f41) (show (0 : Nat) ∉ [6] by decide) (show (0 : Nat) ∉ [6] by decide)
    refine lv_aload_n hx hb d_p5m4_49 rfl (lv_at hl 0 rfl) ?_
    refine pd_get X w f49 rfl 3 (by decide) mT_298 rfl rfl d_p5m4_50 ?_
    refine lv_iconst (v := nI 1) hx hb d_p5m4_53 (by decide) ?_
    refine pd_isub hx hb d_p5m4_54 (by omega) ?_
    have hxn : ∀ i, i < n → ¬ A i = q2 := fun i hi e9 => by obtain ⟨_, _, z, _⟩ := hR.1 i hi; rw [e9, hq3] at z; cases z
    have hE := pd_Rows.ext f53 (by omega) f55 hxn hab hfi hse (gr_fc_lt hcw hfi hse) gr_fc_nd
    exact pd_iret (v := (nI ((n + 1) - 1))) X w ⟨pd_kx.mono (us := [6, 7, 8, 9, 10]) (pd_kx.tr (pd_kx.mono (us := [7, 8, 9, 10, 6]) (pd_kx.tr (pd_kx.mono (us := [7, 8, 9, 10]) (pd_kx.tr (pd_kx.tr (pd_kx.mono (us := [7, 8, 9]) (k6) (by simp)) (k17)) (pd_kx.mono (us := [7, 8, 9]) (k25) (by simp))) (by simp)) (pd_kx.mono (us := [7, 8, 9, 10]) (pd_kq.kx (k38) f28) (by simp))) (by simp)) (pd_kx.mono (us := [7, 8, 9, 10, 6]) (pd_kq.kx (k48) f41) (by simp))) (by simp), (by rw [gr_cadd_y (by omega), show n + 1 - 1 = n by omega]), pd_fu A n q2, (fun i hi => pd_fu_n (by omega)), (by rw [gr_cadd_y (by omega)]; show pd_Cls G h47 x (pd_fu A n q2) (n + 1) (pd_fu R n (gr_row R n cs bi ab fi se)); exact ⟨_, _, (by rw [pd_fu_n (by omega), pd_fu_n (by omega)]; exact f49), f52, (fun i hi => by by_cases e9 : i = n; subst e9; rw [pd_fu_s]; unfold va_up; rw [if_pos rfl]; rw [pd_fu_n e9]; unfold va_up; rw [if_neg e9]; exact hfA i (by omega)), hz_x, hz_ar, by omega, hE⟩)⟩ (by decide) (by decide) d_p5m4_55
  · -- not taken: 9
    refine lv_bipush (v := -5) hx hb d_p5m4_9 (by decide) ?_
    exact pd_iret (v := (-5)) X w ⟨pd_kx.rf, (by rw [gr_cadd_n (by omega)]), A, fun _ _ => rfl, (by rw [gr_cadd_n (by omega)]; exact hC)⟩ (by decide) (by decide) d_p5m4_11
