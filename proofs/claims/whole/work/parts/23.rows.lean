/-! the rows of classes -/
theorem pd_oc (o : Option Nat) : o = none ∨ ∃ k, o = some k := by
  cases o with
  | none => exact Or.inl rfl
  | some k => exact Or.inr ⟨k, rfl⟩
/-- name, whether an INTERFACE, the rows above, first, second, the bits, the faces -/
abbrev pd_cr : Type := List Nat × Bool × Option Nat × Option Nat × Option Nat × Int32 × List Nat
def gr_sll : List Nat → Nat → Option Nat → Option Nat
  | [], _, o => o
  | x :: t, i, o => gr_sll t (i + 1) (if x = 47 then some i else o)
def gr_sl (cs : List Nat) : Option Nat := gr_sll cs 0 none
def pd_cw (n : Nat) (R : Nat → pd_cr) : Prop := n ≤ 14 ∧ ∀ i, i < n → (∀ k, (R i).2.2.1 = some k → k < i) ∧ (∀ k, (R i).2.2.2.1 = some k → k < i) ∧ (∀ k, (R i).2.2.2.2.1 = some k → k < i) ∧ (∀ k ∈ (R i).2.2.2.2.2.2, k < i) ∧ (R i).2.2.2.2.2.2.Nodup
def pd_Row (G : pd_G) (h : pd_H) (A : Nat → Nat) (a i t : Nat) (r : pd_cr) : Prop := ∃ (nm fx : Nat), h a = some (t, .inr (2, [.int (nI i), .ref nm, .int (pd_b r.2.1), va_rf (r.2.2.1.map A), va_rf (r.2.2.2.1.map A), va_rf (r.2.2.2.2.1.map A), .ref fx, .int r.2.2.2.2.2.1, .int (pd_m (gr_sl r.1))])) ∧ pd_Str h nm r.1 ∧ pd_AL G h fx 0 0 (r.2.2.2.2.2.2.map A)
theorem pd_Row.kx {G : pd_G} {ts : List Nat} {h h' : pd_H} {A : Nat → Nat} {a i t : Nat} {r : pd_cr} (q : pd_Row G h A a i t r) (k : pd_kx ts h h') (n1 : t ∉ ts) (n0 : 0 ∉ ts) : pd_Row G h' A a i t r := by
  obtain ⟨nm, fx, h1, h2, h3⟩ := q
  exact ⟨nm, fx, k _ _ h1 n1, h2.kx k n0, h3.kx k n0 n0 n0⟩
def pd_Rows (G : pd_G) (h : pd_H) (A : Nat → Nat) (n : Nat) (R : Nat → pd_cr) : Prop := (∀ i, i < n → pd_Row G h A (A i) i 0 (R i)) ∧ (∀ i j, i < n → j < n → A i = A j → i = j) ∧ pd_cw n R
theorem pd_Rows.kx {G : pd_G} {ts : List Nat} {h h' : pd_H} {A : Nat → Nat} {n : Nat} {R : Nat → pd_cr} (q : pd_Rows G h A n R) (k : pd_kx ts h h') (n0 : 0 ∉ ts) : pd_Rows G h' A n R := ⟨fun i hi => (q.1 i hi).kx k n0 n0, q.2⟩
def gr_bt (R : Nat → pd_cr) (o : Option Nat) : Int32 := match o with | none => 0 | some k => (R k).2.2.2.2.2.1
def al_add (xs : List Nat) (y : Nat) : List Nat := if y ∈ xs then xs else xs ++ [y]
theorem nd_len : ∀ (n : Nat) (l : List Nat), l.Nodup → (∀ x ∈ l, x < n) → l.length ≤ n
  | 0, l, _, h => by
    cases l with
    | nil => exact Nat.le_refl _
    | cons a t => exact absurd (h a List.mem_cons_self) (Nat.not_lt_zero a)
  | n + 1, l, hd, h => by
    have h1 := nd_len n (l.erase n) (hd.erase n) (fun x hx => by
      have h2 := (List.Nodup.mem_erase_iff hd).mp hx
      have := h x h2.2
      omega)
    have h3 : l.length ≤ (l.erase n).length + 1 := by
      rw [List.length_erase]
      split <;> omega
    omega
theorem al_nd {ks : List Nat} {k : Nat} (h : ks.Nodup) : (al_add ks k).Nodup := by
  unfold al_add
  split
  · exact h
  · rename_i q
    rw [List.nodup_append]
    refine ⟨h, List.nodup_cons.mpr ⟨List.not_mem_nil, List.nodup_nil⟩, fun a ha b hb e => ?_⟩
    rw [List.mem_singleton.mp hb] at e
    rw [e] at ha
    exact q ha
theorem al_lt {ks : List Nat} {k n : Nat} (h : ∀ x ∈ ks, x < n) (hk : k < n) : ∀ x ∈ al_add ks k, x < n := by
  intro x hx
  unfold al_add at hx
  split at hx
  · exact h x hx
  · rcases List.mem_append.mp hx with e | e
    · exact h x e
    · rw [List.mem_singleton.mp e]; exact hk
theorem al_map {A : Nat → Nat} {ks : List Nat} {k n : Nat} (hA : ∀ i j, i < n → j < n → A i = A j → i = j) (h : ∀ x ∈ ks, x < n) (hk : k < n) : al_add (ks.map A) (A k) = (al_add ks k).map A := by
  unfold al_add
  by_cases q : k ∈ ks
  · rw [if_pos q, if_pos (List.mem_map_of_mem q)]
  · rw [if_neg q, if_neg (fun z => q (by obtain ⟨y, hy, e⟩ := List.mem_map.mp z; rw [hA k y hk (h y hy) e.symm]; exact hy)), List.map_append]
    rfl
theorem al_len {ks : List Nat} {k n : Nat} (h : ks.Nodup) (hl : ∀ x ∈ ks, x < n) (hk : k < n) (hn : n ≤ 13) (q : k ∉ ks) : ks.length ≤ 12 := by
  have h1 := nd_len n (al_add ks k) (al_nd h) (al_lt hl hk)
  unfold al_add at h1
  rw [if_neg q, List.length_append] at h1
  simp at h1
  omega
def gr_addw (R : Nat → pd_cr) (ks : List Nat) (o : Option Nat) : List Nat := match o with | none => ks | some k => (R k).2.2.2.2.2.2.foldl al_add (al_add ks k)
def gr_fc (R : Nat → pd_cr) (o1 o2 : Option Nat) : List Nat := gr_addw R (gr_addw R [] o1) o2
theorem al_fold_nd : ∀ (js ks : List Nat), ks.Nodup → (js.foldl al_add ks).Nodup
  | [], _, h => h
  | j :: js, ks, h => al_fold_nd js (al_add ks j) (al_nd h)
theorem al_fold_lt {n : Nat} : ∀ (js ks : List Nat), (∀ x ∈ ks, x < n) → (∀ x ∈ js, x < n) → ∀ x ∈ js.foldl al_add ks, x < n
  | [], _, h, _ => h
  | j :: js, ks, h, hj => al_fold_lt js (al_add ks j) (al_lt h (hj j List.mem_cons_self)) (fun x hx => hj x (List.mem_cons_of_mem _ hx))
theorem gr_addw_nd {R : Nat → pd_cr} {ks : List Nat} {o : Option Nat} (h : ks.Nodup) : (gr_addw R ks o).Nodup := by
  cases o with
  | none => exact h
  | some k => exact al_fold_nd _ _ (al_nd h)
theorem gr_addw_lt {n : Nat} {R : Nat → pd_cr} {ks : List Nat} {o : Option Nat} (hc : pd_cw n R) (h : ∀ x ∈ ks, x < n) (ho : ∀ k, o = some k → k < n) : ∀ x ∈ gr_addw R ks o, x < n := by
  cases o with
  | none => exact h
  | some k => exact al_fold_lt _ _ (al_lt h (ho k rfl)) (fun x hx => Nat.lt_trans ((hc.2 k (ho k rfl)).2.2.2.1 x hx) (ho k rfl))
theorem al_take {js : List Nat} {i : Nat} (hi : i < js.length) (ks : List Nat) : al_add ((js.take i).foldl al_add ks) (js.getD i 0) = (js.take (i + 1)).foldl al_add ks := by
  rw [List.take_succ, List.foldl_append, List.getD_eq_getElem?_getD, List.getElem?_eq_getElem hi]
  rfl
theorem tx_map_get {A : Nat → Nat} {js : List Nat} {i : Nat} (hi : i < js.length) : (js.map A).getD i 0 = A (js.getD i 0) := by
  rw [List.getD_eq_getElem?_getD, List.getElem?_map, List.getD_eq_getElem?_getD, List.getElem?_eq_getElem hi]
  rfl
theorem tx_get_mem {js : List Nat} {i : Nat} (hi : i < js.length) : js.getD i 0 ∈ js := by
  rw [List.getD_eq_getElem?_getD, List.getElem?_eq_getElem hi]
  exact List.getElem_mem hi
theorem gr_sll_s {cs : List Nat} {i : Nat} {o : Option Nat} (hi : i < cs.length) : gr_sll (cs.drop i) i o = gr_sll (cs.drop (i + 1)) (i + 1) (if cs.getD i 0 = 47 then some i else o) := by rw [tx_drop hi, gr_sll]
theorem gr_sll_e {cs : List Nat} {i : Nat} {o : Option Nat} (hi : cs.length ≤ i) : gr_sll (cs.drop i) i o = o := by rw [List.drop_eq_nil_of_le hi]; rfl
theorem d_p4m2_0 : decode prog_4_method_2_code 0 = .ok (.aload_n 0, 1) := by decide +kernel
theorem d_p4m2_1 : decode prog_4_method_2_code 1 = .ok (.ifnonnull 7, 3) := by decide +kernel
theorem d_p4m2_4 : decode prog_4_method_2_code 4 = .ok (.iconst 0, 1) := by decide +kernel
theorem d_p4m2_5 : decode prog_4_method_2_code 5 = .ok (.goto 7, 3) := by decide +kernel
theorem d_p4m2_8 : decode prog_4_method_2_code 8 = .ok (.aload_n 0, 1) := by decide +kernel
theorem d_p4m2_9 : decode prog_4_method_2_code 9 = .ok (.getfield 35, 3) := by decide +kernel
theorem d_p4m2_12 : decode prog_4_method_2_code 12 = .ok (.ireturn, 1) := by decide +kernel
abbrev y_ClassRow_bitsOf : MethodName := ⟨"PolicyDesk$ClassRow", "bitsOf", "(LPolicyDesk$ClassRow;)I"⟩
theorem ok_ClassRow_bitsOf : pd_ok y_ClassRow_bitsOf prog_4_method_2_code 1 (some .int) 1 := ⟨mT_88, mT_7, by decide, by decide +kernel⟩
abbrev rm_ClassRow_bitsOf : Room := { frames := 0, cells := 0, slots := 0, locals := 0 }
set_option maxHeartbeats 4000000 in
set_option maxRecDepth 100000 in
theorem c_ClassRow_bitsOf (l : Launch) (G : pd_G) (h : pd_H) {A : Nat → Nat} {n : Nat} {R : Nat → pd_cr} {o : Option Nat} (hR : pd_Rows G h A n R) (ho : ∀ k, o = some k → k < n) : pd_M l y_ClassRow_bitsOf prog_4_method_2_code 1 (some .int) rm_ClassRow_bitsOf G h [va_rf (o.map A)] Value.int (fun r h1 => r = gr_bt R o ∧ h = h1) := by
  refine pd_M.of (by decide) (by cases o <;> exact Nat.le_of_ble_eq_true rfl) ?_
  intro p e s m below meth c X hmn w ls hl
  have hx := X.1
  have hb := X.2.1
  have hl : lv_has ls 1 [(0, va_rf (o.map A))] := by simp only [lv_args, pd_cat] at hl; simpa [Value.category] using hl
  have hcw := hR.2.2
  have hAi := hR.2.1
  have hn14 := hcw.1
  refine pd_oload_n hx hb d_p4m2_0 rfl (lv_at hl 0 rfl) ?_
  rcases pd_oc o with q1 | ⟨i3, q1⟩
  · -- none
    refine pd_top (v' := .null) (by rw [q1]; rfl) ?_
    rw [q1] at hl
    have hl : lv_has ls 1 [(0, .null)] := hl
    refine lv_ifnonnullN hx hb d_p4m2_1 ?_
    refine lv_iconst (v := nI 0) hx hb d_p4m2_4 (by decide) ?_
    refine lv_goto (tgt := 12) hx hb d_p4m2_5 (by decide) ?_
    exact pd_iret (v := (nI 0)) X w ⟨by rw [q1]; rfl, rfl⟩ (by decide) (by decide) d_p4m2_12
  · -- some
    refine pd_top (v' := .ref (A i3)) (by rw [q1]; rfl) ?_
    rw [q1] at hl
    have hl : lv_has ls 1 [(0, .ref (A i3))] := hl
    have i3lt := ho i3 q1
    refine lv_ifnonnull (tgt := 8) hx hb d_p4m2_1 (by decide) ?_
    refine lv_aload_n hx hb d_p4m2_8 rfl (lv_at hl 0 rfl) ?_
    obtain ⟨nm6, fx7, f8, f9, f10⟩ := hR.1 i3 (by omega)
    obtain ⟨v11, g12, f13, f14, gf15, gc16, gl17⟩ := id f9
    obtain ⟨v18, cap19, g20, f21, z22, z23, z24, z25, z26⟩ := id f10
    refine pd_get X w f8 rfl 7 (by decide) mT_270 rfl rfl d_p4m2_9 ?_
    exact pd_iret (v := ((R i3).2.2.2.2.2.1)) X w ⟨by rw [q1]; rfl, rfl⟩ (by decide) (by decide) d_p4m2_12
theorem d_p4m3_0 : decode prog_4_method_3_code 0 = .ok (.iconst (-1), 1) := by decide +kernel
theorem d_p4m3_1 : decode prog_4_method_3_code 1 = .ok (.istore_n 1, 1) := by decide +kernel
theorem d_p4m3_2 : decode prog_4_method_3_code 2 = .ok (.iconst 0, 1) := by decide +kernel
theorem d_p4m3_3 : decode prog_4_method_3_code 3 = .ok (.istore_n 2, 1) := by decide +kernel
theorem d_p4m3_4 : decode prog_4_method_3_code 4 = .ok (.iload_n 2, 1) := by decide +kernel
theorem d_p4m3_5 : decode prog_4_method_3_code 5 = .ok (.aload_n 0, 1) := by decide +kernel
theorem d_p4m3_6 : decode prog_4_method_3_code 6 = .ok (.invokevirtual 53, 3) := by decide +kernel
theorem d_p4m3_9 : decode prog_4_method_3_code 9 = .ok (.if_icmp .ge 21, 3) := by decide +kernel
theorem d_p4m3_12 : decode prog_4_method_3_code 12 = .ok (.aload_n 0, 1) := by decide +kernel
theorem d_p4m3_13 : decode prog_4_method_3_code 13 = .ok (.iload_n 2, 1) := by decide +kernel
theorem d_p4m3_14 : decode prog_4_method_3_code 14 = .ok (.invokevirtual 59, 3) := by decide +kernel
theorem d_p4m3_17 : decode prog_4_method_3_code 17 = .ok (.bipush 47, 2) := by decide +kernel
theorem d_p4m3_19 : decode prog_4_method_3_code 19 = .ok (.if_icmp .ne 5, 3) := by decide +kernel
theorem d_p4m3_22 : decode prog_4_method_3_code 22 = .ok (.iload_n 2, 1) := by decide +kernel
theorem d_p4m3_23 : decode prog_4_method_3_code 23 = .ok (.istore_n 1, 1) := by decide +kernel
theorem d_p4m3_24 : decode prog_4_method_3_code 24 = .ok (.iinc 2 1, 3) := by decide +kernel
theorem d_p4m3_27 : decode prog_4_method_3_code 27 = .ok (.goto (-23), 3) := by decide +kernel
theorem d_p4m3_30 : decode prog_4_method_3_code 30 = .ok (.iload_n 1, 1) := by decide +kernel
theorem d_p4m3_31 : decode prog_4_method_3_code 31 = .ok (.ireturn, 1) := by decide +kernel
abbrev y_ClassRow_lastSlashOf : MethodName := ⟨"PolicyDesk$ClassRow", "lastSlashOf", "(Ljava/lang/String;)I"⟩
theorem ok_ClassRow_lastSlashOf : pd_ok y_ClassRow_lastSlashOf prog_4_method_3_code 3 (some .int) 1 := ⟨mT_91, mT_7, by decide, by decide +kernel⟩
abbrev rm_ClassRow_lastSlashOf : Room := { frames := 4, cells := 0, slots := 0, locals := 85 }
set_option maxHeartbeats 4000000 in
set_option maxRecDepth 100000 in
theorem lp_ClassRow_lastSlashOf_4 (l : Launch) (G : pd_G) (h : pd_H) {a : Nat} {cs : List Nat} (hS : pd_Str h a cs) {p : Program} {e : Env} {s : State} {m : MethodId} {below : List Frame} {meth : Method} {c : Code} (X : pd_B p s m [.ref a].toArray meth c G y_ClassRow_lastSlashOf.cls prog_4_method_3_code 3 (some .int)) (hmn : meth.name = y_ClassRow_lastSlashOf.name) :
    ∀ (kk9 : Nat) (i : Nat) (o : Option Nat), (i ≤ cs.length) → (gr_sll (cs.drop i) i o = gr_sll cs 0 none) → cs.length - i < kk9 → ∀ (H : Heap) (locs : List Loc), pd_w G s H locs h → ∀ ls : Array Slot, lv_has ls 3 [(2, .int (nI i)), (1, .int (pd_m o)), (0, .ref a)] → W p l e rm_ClassRow_lastSlashOf s m [.ref a].toArray below meth c H locs 0 0 (MQ below (pd_Q G pd_vm (fun r h1 => r = gr_sl cs ∧ h = h1)) [.ref a].toArray s rm_ClassRow_lastSlashOf.cells rm_ClassRow_lastSlashOf.slots (fun q => G.2.1 ≤ q)) (F0 m 4 ls []) := by
  have hx := X.1
  have hb := X.2.1
  obtain ⟨v1, f1, hv1, hv2, hvf, hvc, hvl⟩ := id hS
  intro kk9
  induction kk9 with
  | zero => intros; omega
  | succ kk9 ih =>
    intro i o hi hv hmu H locs w ls hl
    refine lv_iload_n hx hb d_p4m3_4 rfl (lv_at hl 0 rfl) ?_
    refine lv_aload_n hx hb d_p4m3_5 rfl (lv_at hl 2 rfl) ?_
    refine pd_cV (a := a) (As := []) (rest := [.int (nI i)]) X w hv1 rfl (c_String_length l G h (by assumption)) ok_String_length ⟨mT_93, mT_94⟩ mT_92 ⟨by decide, by decide⟩ rfl hl.1 rfl (Nat.le_of_ble_eq_true rfl) d_p4m3_6 ⟨by decide, by decide⟩ (fun r1 h2 H locs hp3 w => ?_)
    refine W.widen (k := 0) (n := 0) (by decide) (by decide) ?_
    obtain ⟨e4, rfl⟩ := hp3
    refine pd_jge (tgt := 30) hx hb d_p4m3_9 (by decide) (by omega) (by omega) (fun q5 => ?_) (fun q5 => ?_)
    · -- taken: 30
      refine lv_iload_n hx hb d_p4m3_30 rfl (lv_at hl 1 rfl) ?_
      exact pd_mret (v := o) X w ⟨by unfold gr_sl; rw [← hv, gr_sll_e (i := i) (by omega)], rfl⟩ (by decide) (by decide) d_p4m3_31
    · -- not taken: 12
      refine lv_aload_n hx hb d_p4m3_12 rfl (lv_at hl 2 rfl) ?_
      refine lv_iload_n hx hb d_p4m3_13 rfl (lv_at hl 0 rfl) ?_
      refine pd_cV (a := a) (As := [.int (nI i)]) (rest := []) X w hv1 rfl (c_String_charAt l G h (by assumption) (by omega)) ok_String_charAt ⟨mT_102, mT_103⟩ mT_101 ⟨by decide, by decide⟩ rfl hl.1 rfl (Nat.le_of_ble_eq_true rfl) d_p4m3_14 ⟨by decide, by decide⟩ (fun r6 h7 H locs hp8 w => ?_)
      refine W.widen (k := 0) (n := 0) (by decide) (by decide) ?_
      obtain ⟨e9, lt10, rfl⟩ := hp8
      refine lv_bipush (v := nI 47) hx hb d_p4m3_17 (by decide) ?_
      refine pd_jne (tgt := 24) hx hb d_p4m3_19 (by decide) (by omega) (by omega) (fun q11 => ?_) (fun q11 => ?_)
      · -- taken: 24
        refine pd_iinc (k := 0) (d := 1) (lv' := [(2, .int (nI (i + 1))), (1, .int (pd_m o)), (0, .ref a)]) hx hb d_p4m3_24 (by decide) hl rfl (by decide) rfl (fun ls hl => ?_)
        refine lv_goto (tgt := 4) hx hb d_p4m3_27 (by decide) ?_
        exact ih (i + 1) o (by omega) (by rw [← hv, gr_sll_s (i := i) (by omega), if_neg (by omega)]) (by omega) _ _ w ls (lv_sub hl [0, 1, 2] rfl)
      · -- not taken: 22
        refine lv_iload_n hx hb d_p4m3_22 rfl (lv_at hl 0 rfl) ?_
        refine lv_istore_n (lv' := [(1, .int (nI i)), (2, .int (nI i)), (0, .ref a)]) hx hb d_p4m3_23 rfl hl (by decide) rfl (fun ls hl => ?_)
        refine pd_iinc (k := 1) (d := 1) (lv' := [(2, .int (nI (i + 1))), (1, .int (nI i)), (0, .ref a)]) hx hb d_p4m3_24 (by decide) hl rfl (by decide) rfl (fun ls hl => ?_)
        refine lv_goto (tgt := 4) hx hb d_p4m3_27 (by decide) ?_
        exact ih (i + 1) (some i) (by omega) (by rw [← hv, gr_sll_s (i := i) (by omega), if_pos (by omega)]) (by omega) _ _ w ls (lv_sub hl [0, 1, 2] rfl)
set_option maxHeartbeats 4000000 in
set_option maxRecDepth 100000 in
theorem c_ClassRow_lastSlashOf (l : Launch) (G : pd_G) (h : pd_H) {a : Nat} {cs : List Nat} (hS : pd_Str h a cs) : pd_M l y_ClassRow_lastSlashOf prog_4_method_3_code 3 (some .int) rm_ClassRow_lastSlashOf G h [.ref a] pd_vm (fun r h1 => r = gr_sl cs ∧ h = h1) := by
  refine pd_M.of (by decide) (Nat.le_of_ble_eq_true rfl) ?_
  intro p e s m below meth c X hmn w ls hl
  have hx := X.1
  have hb := X.2.1
  have hl : lv_has ls 3 [(0, .ref a)] := hl
  obtain ⟨v1, f1, hv1, hv2, hvf, hvc, hvl⟩ := id hS
  refine lv_iconst (v := -1) hx hb d_p4m3_0 (by decide) ?_
  refine lv_istore_n (lv' := [(1, .int (-1)), (0, .ref a)]) hx hb d_p4m3_1 rfl hl (by decide) rfl (fun ls hl => ?_)
  refine lv_iconst (v := nI 0) hx hb d_p4m3_2 (by decide) ?_
  refine lv_istore_n (lv' := [(2, .int (nI 0)), (1, .int (-1)), (0, .ref a)]) hx hb d_p4m3_3 rfl hl (by decide) rfl (fun ls hl => ?_)
  exact lp_ClassRow_lastSlashOf_4 l G h hS X hmn (cs.length + 1) 0 none (by omega) (rfl) (by omega) _ _ w ls (lv_sub hl [0, 1, 2] rfl)
