/-! words of a LINE; the verbs -/
theorem gr_cutL_ok (cs : List Nat) : ∀ (n i k : Nat) (g : Nat → Nat), k ≤ 6 → i + n ≤ cs.length + 1 → g k ≤ i → (∀ j, j < k → g j + 1 < g (j + 1) ∧ g (j + 1) ≤ cs.length + 1) →
    (gr_cutL cs n i k g).1 ≤ 6 ∧ ∀ j, j < (gr_cutL cs n i k g).1 → (gr_cutL cs n i k g).2 j + 1 < (gr_cutL cs n i k g).2 (j + 1) ∧ (gr_cutL cs n i k g).2 (j + 1) ≤ cs.length + 1
  | 0, i, k, g, hk, hi, hg, hj => ⟨hk, hj⟩
  | n + 1, i, k, g, hk, hi, hg, hj => by
    unfold gr_cutL
    split
    · exact gr_cutL_ok cs n (i + 1) k g hk (by omega) (by omega) hj
    · split
      · exact ⟨Nat.zero_le _, fun j hj => absurd hj (Nat.not_lt_zero j)⟩
      · rename_i hq
        refine gr_cutL_ok cs n (i + 1) (k + 1) _ (by omega) (by omega) (by simp) (fun j hjk => ?_)
        by_cases e : j = k
        · subst e
          simp only [if_true]
          rw [if_neg (by omega)]
          omega
        · rw [if_neg (by omega), if_neg (by omega)]
          exact hj j (by omega)
theorem gr_cut_ok (cs : List Nat) : (gr_cut cs).1 ≤ 6 ∧ ∀ j, j < (gr_cut cs).1 → (gr_cut cs).2 j + 1 < (gr_cut cs).2 (j + 1) ∧ (gr_cut cs).2 (j + 1) ≤ cs.length + 1 :=
  gr_cutL_ok cs (cs.length + 1) 0 0 _ (by decide) (by omega) (by decide) (fun j hj => absurd hj (Nat.not_lt_zero j))
/-- word i, or nothing -/
def gr_w (cs : List Nat) (i : Nat) : List Nat := if i < (gr_cut cs).1 then tx_sub cs ((gr_cut cs).2 i) ((gr_cut cs).2 (i + 1) - 1) else []
def pd_Ln (h : pd_H) (x : Nat) (cs : List Nat) : Prop := ∃ (a st : Nat) (fA : Nat → Int32), h x = some (0, .inr (4, [.ref a, .int (nI (gr_cut cs).1), .ref st])) ∧ h st = some (0, .inl (.int, 7, .inl fA)) ∧ tx_nums fA (gr_cut cs).2 7 ∧ pd_Str h a cs
theorem pd_Ln.kx {ts : List Nat} {h h' : pd_H} {a : Nat} {cs : List Nat} (q : pd_Ln h a cs) (k : pd_kx ts h h') (n : 0 ∉ ts) : pd_Ln h' a cs := by
  obtain ⟨v, st, f, h1, h2, h3, h4⟩ := q
  exact ⟨v, st, f, k _ _ h1 n, k _ _ h2 n, h3, h4.kx k n⟩
def pd_nln (c : pd_C) : Prop := (∀ fs, c ≠ (0, .inr (4, fs))) ∧ (∀ n f, c ≠ (0, .inl (.int, n, .inl f))) ∧ pd_ns c
theorem pd_Ln.kq {h h' : pd_H} {a b : Nat} {cs : List Nat} {ca : pd_C} (q : pd_Ln h b cs) (k : pd_kq a h h') (fa : h a = some ca) (n : pd_nln ca) : pd_Ln h' b cs := by
  obtain ⟨v, st, f, h1, h2, h3, h4⟩ := q
  exact ⟨v, st, f, k _ _ (pd_ne h1 fa (fun z => n.1 _ z.symm)) h1, k _ _ (pd_ne h2 fa (fun z => n.2.1 _ _ z.symm)) h2, h3, h4.kq k fa n.2.2⟩
/-- the place of a verb's word -/
def gr_verb (cs : List Nat) : Option Nat := (List.range 13).find? (fun i => decide (pd_lit (pd_vw i) = cs))
theorem gr_verb_some {cs : List Nat} {i : Nat} (hi : i < 13) (hj : ∀ j, j < i → ¬ pd_lit (pd_vw j) = cs) (hx : pd_lit (pd_vw i) = cs) : gr_verb cs = some i := by
  unfold gr_verb
  rw [List.find?_range_eq_some]
  refine ⟨decide_eq_true hx, List.mem_range.mpr hi, fun j hlt => ?_⟩
  rw [decide_eq_false (hj j hlt)]
  rfl
theorem gr_verb_none {cs : List Nat} (hj : ∀ j, j < 13 → ¬ pd_lit (pd_vw j) = cs) : gr_verb cs = none := by
  unfold gr_verb
  rw [List.find?_range_eq_none]
  intro j hlt
  rw [decide_eq_false (hj j hlt)]
  rfl
theorem gr_verb_lt {cs : List Nat} {i : Nat} (q : gr_verb cs = some i) : i < 13 := by
  unfold gr_verb at q
  rw [List.find?_range_eq_some] at q
  exact List.mem_range.mp q.2.1
theorem pd_vw_lt (i : Nat) : pd_vw i < 39 := by
  by_cases h : i < 13
  · have : ∀ j ∈ List.range 13, pd_vw j < 39 := by decide
    exact this i (List.mem_range.mpr h)
  · unfold pd_vw
    rw [List.getD_eq_getElem?_getD, List.getElem?_eq_none (by show 13 ≤ i; omega)]
    decide
section PDVB
variable {p : Program} {l : Launch} {e : Env} {R : Room} {s : State} {m : MethodId} {args : Array Value} {below : List Frame} {meth : Method} {c : Code} {H : Heap} {locs : List Loc} {cells slots : Nat} {Q : State → Prop}
variable {cc : ByteArray} {pc nL index : Nat} {ls : Array Slot} {rest : List Value} {G : pd_G} {own : String} {ret : Option FieldType} {h : pd_H} {mc ms : Nat}
theorem pd_gvw {i : Nat} (X : pd_B p s m args meth c G own cc nL ret) (w : pd_w G s H locs h) (hi : i < 13) (hl : Cond.fieldLink own index "PolicyDesk$Verb" "word" "Ljava/lang/String;" ∈ pd_T) (hdg : decode cc pc = .ok (.getfield index, 3))
    (kk : W p l e R s m args below meth c H locs cells slots Q (F0 m (pc + 3) ls (.ref (G.2.2.2 (40 + pd_vw i)) :: rest))) : W p l e R s m args below meth c H locs cells slots Q (F0 m pc ls (.ref (G.2.2.2 (10 + i)) :: rest)) :=
  vk_getf X.1 X.2.1 (X.2.2.2.2.2.2.2.2.2.2.2.2.1 i hi).2.2 w.2.2 X.2.2.2.2.1 (X.2.2.2.2.2.1 _ hl) (fun _ h => h) hdg kk
theorem pd_gvo {i : Nat} (X : pd_B p s m args meth c G own cc nL ret) (w : pd_w G s H locs h) (hi : i < 13) (hl : Cond.fieldLink own index "java/lang/Enum" "ordinal" "I" ∈ pd_T) (hdg : decode cc pc = .ok (.getfield index, 3))
    (kk : W p l e R s m args below meth c H locs cells slots Q (F0 m (pc + 3) ls (.int (nI i) :: rest))) : W p l e R s m args below meth c H locs cells slots Q (F0 m pc ls (.ref (G.2.2.2 (10 + i)) :: rest)) :=
  vk_getf X.1 X.2.1 (X.2.2.2.2.2.2.2.2.2.2.2.2.1 i hi).2.1 w.2.2 X.2.2.2.2.1 (X.2.2.2.2.2.1 _ hl) (fun _ h => h) hdg kk
theorem pd_all (X : pd_B p s m args meth c G own cc nL ret) (w : pd_w G s H locs h) : h (G.2.2.2 1) = some (0, .inl (.object "PolicyDesk$Verb", 13, .inr (.inr (.inr (.inr (fun i => some (G.2.2.2 (10 + i)))))))) := w.2.1 _ _ (pd_Kf_of X).2.2.1
theorem pd_swm (X : pd_B p s m args meth c G own cc nL ret) (w : pd_w G s H locs h) : h (G.2.2.2 2) = some (0, .inl (.int, 13, .inl (fun i => nI (pd_map i)))) := w.2.1 _ _ (pd_Kf_of X).2.2.2.1
theorem pd_cord {y x : MethodName} {b : ByteArray} {maxL : Nat} {rt : Option FieldType} {rm : Room} {i : Nat} {α : Type} {mk : α → Value} {post : α → pd_H → Prop} (X : pd_B p s m args meth c G own cc nL ret) (w : pd_w G s H locs h) (hi : i < 13) (hM : pd_M l y b maxL rt rm G h [.ref (G.2.2.2 (10 + i))] mk post) (ok : pd_ok y b maxL rt 0) (hyx : y = ⟨y.cls, x.name, x.desc⟩) (hst : Cond.instanceMethod y ∈ pd_T ∧ (Cond.selects "PolicyDesk$Verb" x y).before args s = true ∧ Cond.sameMethod x.cls y.cls x.name x.desc ∈ pd_T) (hl : Cond.methodLink own index x ∈ pd_T) (hR : rm.frames + 1 ≤ R.frames ∧ 8 + (maxL + 11) + rm.locals ≤ R.locals)
    (hsz : ls.size = nL) (hW : (rest.map fun v => v.category).sum ≤ 8) (hdg : decode cc pc = .ok (.invokevirtual index, 3)) (hf : cells + rm.cells ≤ R.cells ∧ slots + rm.slots ≤ R.slots)
    (kk : ∀ (r : α) (h' : pd_H) (H1 : Heap) (locs1 : List Loc), post r h' → pd_w G s H1 locs1 h' → W p l e R s m args below meth c H1 locs1 (cells + rm.cells) (slots + rm.slots) Q (F0 m (pc + 3) ls (mk r :: rest))) : W p l e R s m args below meth c H locs cells slots Q (F0 m pc ls (.ref (G.2.2.2 (10 + i)) :: rest)) :=
  pd_run (va_runU (As := []) (C := "PolicyDesk$Verb") (pd_fix X) hM (pd_callU X ok hyx hst hl hR) ⟨pd_P.blind, va_Orecv (X.2.2.2.2.2.2.2.2.2.2.2.2.1 i hi).1 w.2.2, (pd_pre (As := [.ref (G.2.2.2 (10 + i))]) X w).2⟩ rfl rfl hsz rfl (lv_room hW) hdg hf) w kk
end PDVB
theorem d_p7m3_0 : decode prog_7_method_3_code 0 = .ok (.iload_n 1, 1) := by decide +kernel
theorem d_p7m3_1 : decode prog_7_method_3_code 1 = .ok (.ifCond .lt 11, 3) := by decide +kernel
theorem d_p7m3_4 : decode prog_7_method_3_code 4 = .ok (.iload_n 1, 1) := by decide +kernel
theorem d_p7m3_5 : decode prog_7_method_3_code 5 = .ok (.aload_n 0, 1) := by decide +kernel
theorem d_p7m3_6 : decode prog_7_method_3_code 6 = .ok (.getfield 21, 3) := by decide +kernel
theorem d_p7m3_9 : decode prog_7_method_3_code 9 = .ok (.if_icmp .lt 8, 3) := by decide +kernel
theorem d_p7m3_12 : decode prog_7_method_3_code 12 = .ok (.ldc 35, 2) := by decide +kernel
theorem d_p7m3_14 : decode prog_7_method_3_code 14 = .ok (.goto 26, 3) := by decide +kernel
theorem d_p7m3_17 : decode prog_7_method_3_code 17 = .ok (.aload_n 0, 1) := by decide +kernel
theorem d_p7m3_18 : decode prog_7_method_3_code 18 = .ok (.getfield 13, 3) := by decide +kernel
theorem d_p7m3_21 : decode prog_7_method_3_code 21 = .ok (.aload_n 0, 1) := by decide +kernel
theorem d_p7m3_22 : decode prog_7_method_3_code 22 = .ok (.getfield 9, 3) := by decide +kernel
theorem d_p7m3_25 : decode prog_7_method_3_code 25 = .ok (.iload_n 1, 1) := by decide +kernel
theorem d_p7m3_26 : decode prog_7_method_3_code 26 = .ok (.iaload, 1) := by decide +kernel
theorem d_p7m3_27 : decode prog_7_method_3_code 27 = .ok (.aload_n 0, 1) := by decide +kernel
theorem d_p7m3_28 : decode prog_7_method_3_code 28 = .ok (.getfield 9, 3) := by decide +kernel
theorem d_p7m3_31 : decode prog_7_method_3_code 31 = .ok (.iload_n 1, 1) := by decide +kernel
theorem d_p7m3_32 : decode prog_7_method_3_code 32 = .ok (.iconst 1, 1) := by decide +kernel
theorem d_p7m3_33 : decode prog_7_method_3_code 33 = .ok (.iadd, 1) := by decide +kernel
theorem d_p7m3_34 : decode prog_7_method_3_code 34 = .ok (.iaload, 1) := by decide +kernel
theorem d_p7m3_35 : decode prog_7_method_3_code 35 = .ok (.iconst 1, 1) := by decide +kernel
theorem d_p7m3_36 : decode prog_7_method_3_code 36 = .ok (.isub, 1) := by decide +kernel
theorem d_p7m3_37 : decode prog_7_method_3_code 37 = .ok (.invokevirtual 37, 3) := by decide +kernel
theorem d_p7m3_40 : decode prog_7_method_3_code 40 = .ok (.areturn, 1) := by decide +kernel
abbrev y_Line_word : MethodName := ⟨"PolicyDesk$Line", "word", "(I)Ljava/lang/String;"⟩
theorem ok_Line_word : pd_ok y_Line_word prog_7_method_3_code 2 (some (.object "java/lang/String")) 1 := ⟨mT_576, mT_22, by decide, by decide +kernel⟩
abbrev rm_Line_word : Room := { frames := 5, cells := 2, slots := 64, locals := 132 }
set_option maxHeartbeats 4000000 in
set_option maxRecDepth 100000 in
theorem c_Line_word (l : Launch) (G : pd_G) (h : pd_H) {x : Nat} {cs : List Nat} {i : Nat} (hL : pd_Ln h x cs) (hi : i < 1000) : pd_M l y_Line_word prog_7_method_3_code 2 (some (.object "java/lang/String")) rm_Line_word G h [.ref x, .int (nI i)] Value.ref (fun r h1 => pd_kx [] h h1 ∧ ∃ ds, ds = gr_w cs i ∧ pd_Str h1 r ds) := by
  refine pd_M.of (by decide) (Nat.le_of_ble_eq_true rfl) ?_
  intro p e s m below meth c X hmn w ls hl
  have hx := X.1
  have hb := X.2.1
  have hl : lv_has ls 2 [(0, .ref x), (1, .int (nI i))] := hl
  obtain ⟨a, st, fA, hxa, hst, hnu, hS⟩ := id hL
  have hct := gr_cut_ok cs
  have hct6 := hct.1
  obtain ⟨v1, f1, hv1, hv2, hvf, hvc, hvl⟩ := id hS
  refine lv_iload_n hx hb d_p7m3_0 rfl (lv_at hl 1 rfl) ?_
  refine pd_zlt (tgt := 12) hx hb d_p7m3_1 (by decide) (by omega) ?_
  refine lv_iload_n hx hb d_p7m3_4 rfl (lv_at hl 1 rfl) ?_
  refine lv_aload_n hx hb d_p7m3_5 rfl (lv_at hl 0 rfl) ?_
  refine pd_get X w hxa rfl 1 (by decide) mT_542 rfl rfl d_p7m3_6 ?_
  refine pd_jlt (tgt := 17) hx hb d_p7m3_9 (by decide) (by omega) (by omega) (fun q2 => ?_) (fun q2 => ?_)
  · -- taken: 17
    refine lv_aload_n hx hb d_p7m3_17 rfl (lv_at hl 0 rfl) ?_
    refine pd_get X w hxa rfl 0 (by decide) mT_540 rfl rfl d_p7m3_18 ?_
    refine lv_aload_n hx hb d_p7m3_21 rfl (lv_at hl 0 rfl) ?_
    refine pd_get X w hxa rfl 2 (by decide) mT_545 rfl rfl d_p7m3_22 ?_
    refine lv_iload_n hx hb d_p7m3_25 rfl (lv_at hl 1 rfl) ?_
    refine pd_iald X w hst (by omega) (by omega) d_p7m3_26 ?_
    have hi6 := hct.2 i (by omega)
    have hn0 := hnu i (by omega)
    have hn1 := hnu (i + 1) (by omega)
    refine pd_top (v' := .int (nI ((gr_cut cs).2 i))) (by rw [hn0.1]) ?_
    refine lv_aload_n hx hb d_p7m3_27 rfl (lv_at hl 0 rfl) ?_
    refine pd_get X w hxa rfl 2 (by decide) mT_545 rfl rfl d_p7m3_28 ?_
    refine lv_iload_n hx hb d_p7m3_31 rfl (lv_at hl 1 rfl) ?_
    refine lv_iconst (v := nI 1) hx hb d_p7m3_32 (by decide) ?_
    refine pd_iadd hx hb d_p7m3_33 ?_
    refine pd_iald X w hst (by omega) (by omega) d_p7m3_34 ?_
    refine pd_top (v' := .int (nI ((gr_cut cs).2 (i + 1)))) (by rw [hn1.1]) ?_
    refine lv_iconst (v := nI 1) hx hb d_p7m3_35 (by decide) ?_
    refine pd_isub hx hb d_p7m3_36 (by omega) ?_
    refine pd_cV (a := a) (As := [.int (nI ((gr_cut cs).2 i)), .int (nI (((gr_cut cs).2 (i + 1)) - 1))]) (rest := []) X w hv1 rfl (c_String_substring2 l G h (by assumption) (by omega) (by omega)) ok_String_substring2 ⟨mT_579, mT_580⟩ mT_578 ⟨by decide, by decide⟩ rfl hl.1 rfl (Nat.le_of_ble_eq_true rfl) d_p7m3_37 ⟨by decide, by decide⟩ (fun r3 h4 H locs hp5 w => ?_)
    refine W.widen (k := 2) (n := 64) (by decide) (by decide) ?_
    obtain ⟨k6, ds7, e8, f9⟩ := hp5
    have f17 := k6 _ _ hxa List.not_mem_nil
    have f18 := k6 _ _ hv1 List.not_mem_nil
    have f19 := k6 _ _ hst List.not_mem_nil
    have f20 := k6 _ _ hv2 List.not_mem_nil
    have f21 := hL.kx k6 List.not_mem_nil
    have f22 := hS.kx k6 List.not_mem_nil
    obtain ⟨v10, g11, f12, f13, gf14, gc15, gl16⟩ := id f9
    exact pd_aret (v := r3) X (Or.inl ⟨_, rfl⟩) w ⟨k6, _, (by unfold gr_w; rw [if_pos (by omega)]; exact e8), f9⟩ (by decide) (by decide) d_p7m3_40
  · -- not taken: 12
    refine pd_ldc X (List.mem_of_getElem? (i := 2) rfl) d_p7m3_12 ?_
    have L23 : pd_Str h (G.2.2.2 42) [] := pd_litS X w 2 (by decide)
    obtain ⟨v24, g25, f26, f27, gf28, gc29, gl30⟩ := id L23
    refine lv_goto (tgt := 40) hx hb d_p7m3_14 (by decide) ?_
    exact pd_aret (v := (G.2.2.2 42)) X (Or.inl ⟨_, rfl⟩) w ⟨pd_kx.rf, _, (by unfold gr_w; rw [if_neg (by omega)]), by assumption⟩ (by decide) (by decide) d_p7m3_40
theorem d_p20m2_0 : decode prog_20_method_2_code 0 = .ok (.aload_n 0, 1) := by decide +kernel
theorem d_p20m2_1 : decode prog_20_method_2_code 1 = .ok (.getfield 7, 3) := by decide +kernel
theorem d_p20m2_4 : decode prog_20_method_2_code 4 = .ok (.ireturn, 1) := by decide +kernel
abbrev y_Enum_ordinal : MethodName := ⟨"java/lang/Enum", "ordinal", "()I"⟩
theorem ok_Enum_ordinal : pd_ok y_Enum_ordinal prog_20_method_2_code 1 (some .int) 0 := ⟨mT_630, mT_23, by decide, by decide +kernel⟩
abbrev rm_Enum_ordinal : Room := { frames := 0, cells := 0, slots := 0, locals := 0 }
set_option maxHeartbeats 4000000 in
set_option maxRecDepth 100000 in
theorem c_Enum_ordinal (l : Launch) (G : pd_G) (h : pd_H) {i : Nat} (hi : i < 13) : pd_M l y_Enum_ordinal prog_20_method_2_code 1 (some .int) rm_Enum_ordinal G h [.ref (G.2.2.2 (10 + i))] pd_vn (fun r h1 => i = r ∧ h = h1) := by
  refine pd_M.of (by decide) (Nat.le_of_ble_eq_true rfl) ?_
  intro p e s m below meth c X hmn w ls hl
  have hx := X.1
  have hb := X.2.1
  have hl : lv_has ls 1 [(0, .ref (G.2.2.2 (10 + i)))] := hl
  refine lv_aload_n hx hb d_p20m2_0 rfl (lv_at hl 0 rfl) ?_
  refine pd_gvo (i := i) X w (by omega) mT_1511 d_p20m2_1 ?_
  exact pd_nret (v := i) X w ⟨rfl, rfl⟩ (by decide) (by decide) d_p20m2_4
theorem d_p13m4_0 : decode prog_13_method_4_code 0 = .ok (.iconst 0, 1) := by decide +kernel
theorem d_p13m4_1 : decode prog_13_method_4_code 1 = .ok (.istore_n 1, 1) := by decide +kernel
theorem d_p13m4_2 : decode prog_13_method_4_code 2 = .ok (.iload_n 1, 1) := by decide +kernel
theorem d_p13m4_3 : decode prog_13_method_4_code 3 = .ok (.getstatic 66, 3) := by decide +kernel
theorem d_p13m4_6 : decode prog_13_method_4_code 6 = .ok (.arraylength, 1) := by decide +kernel
theorem d_p13m4_7 : decode prog_13_method_4_code 7 = .ok (.if_icmp .ge 30, 3) := by decide +kernel
theorem d_p13m4_10 : decode prog_13_method_4_code 10 = .ok (.getstatic 66, 3) := by decide +kernel
theorem d_p13m4_13 : decode prog_13_method_4_code 13 = .ok (.iload_n 1, 1) := by decide +kernel
theorem d_p13m4_14 : decode prog_13_method_4_code 14 = .ok (.aaload, 1) := by decide +kernel
theorem d_p13m4_15 : decode prog_13_method_4_code 15 = .ok (.getfield 62, 3) := by decide +kernel
theorem d_p13m4_18 : decode prog_13_method_4_code 18 = .ok (.aload_n 0, 1) := by decide +kernel
theorem d_p13m4_19 : decode prog_13_method_4_code 19 = .ok (.invokevirtual 69, 3) := by decide +kernel
theorem d_p13m4_22 : decode prog_13_method_4_code 22 = .ok (.ifCond .eq 9, 3) := by decide +kernel
theorem d_p13m4_25 : decode prog_13_method_4_code 25 = .ok (.getstatic 66, 3) := by decide +kernel
theorem d_p13m4_28 : decode prog_13_method_4_code 28 = .ok (.iload_n 1, 1) := by decide +kernel
theorem d_p13m4_29 : decode prog_13_method_4_code 29 = .ok (.aaload, 1) := by decide +kernel
theorem d_p13m4_30 : decode prog_13_method_4_code 30 = .ok (.areturn, 1) := by decide +kernel
theorem d_p13m4_31 : decode prog_13_method_4_code 31 = .ok (.iinc 1 1, 3) := by decide +kernel
theorem d_p13m4_34 : decode prog_13_method_4_code 34 = .ok (.goto (-32), 3) := by decide +kernel
theorem d_p13m4_37 : decode prog_13_method_4_code 37 = .ok (.aconst_null, 1) := by decide +kernel
theorem d_p13m4_38 : decode prog_13_method_4_code 38 = .ok (.areturn, 1) := by decide +kernel
abbrev y_Verb_of : MethodName := ⟨"PolicyDesk$Verb", "of", "(Ljava/lang/String;)LPolicyDesk$Verb;"⟩
theorem ok_Verb_of : pd_ok y_Verb_of prog_13_method_4_code 2 (some (.object "PolicyDesk$Verb")) 1 := ⟨mT_609, mT_24, by decide, by decide +kernel⟩
abbrev rm_Verb_of : Room := { frames := 2, cells := 0, slots := 0, locals := 44 }
set_option maxHeartbeats 4000000 in
set_option maxRecDepth 100000 in
theorem lp_Verb_of_2 (l : Launch) (G : pd_G) (h : pd_H) {a : Nat} {cs : List Nat} (hS : pd_Str h a cs) {p : Program} {e : Env} {s : State} {m : MethodId} {below : List Frame} {meth : Method} {c : Code} (X : pd_B p s m [.ref a].toArray meth c G y_Verb_of.cls prog_13_method_4_code 2 (some (.object "PolicyDesk$Verb"))) (hmn : meth.name = y_Verb_of.name) :
    ∀ (kk9 : Nat) (i : Nat), (i ≤ 13) → (∀ j, j < i → ¬ pd_lit (pd_vw j) = cs) → 13 - i < kk9 → ∀ (H : Heap) (locs : List Loc), pd_w G s H locs h → ∀ ls : Array Slot, lv_has ls 2 [(1, .int (nI i)), (0, .ref a)] → W p l e rm_Verb_of s m [.ref a].toArray below meth c H locs 0 0 (MQ below (pd_Q G va_rf (fun r h1 => r = (gr_verb cs).map (fun i => G.2.2.2 (10 + i)) ∧ h = h1)) [.ref a].toArray s rm_Verb_of.cells rm_Verb_of.slots (fun q => G.2.1 ≤ q)) (F0 m 2 ls []) := by
  have hx := X.1
  have hb := X.2.1
  obtain ⟨v1, f1, hv1, hv2, hvf, hvc, hvl⟩ := id hS
  intro kk9
  induction kk9 with
  | zero => intros; omega
  | succ kk9 ih =>
    intro i hi hj hmu H locs w ls hl
    refine lv_iload_n hx hb d_p13m4_2 rfl (lv_at hl 0 rfl) ?_
    refine pd_gets X w (List.mem_of_getElem? (i := 2) rfl) mT_610 d_p13m4_3 ?_
    have f1 := pd_all X w
    refine pd_alen X w f1 d_p13m4_6 ?_
    refine pd_jge (tgt := 37) hx hb d_p13m4_7 (by decide) (by omega) (by omega) (fun q2 => ?_) (fun q2 => ?_)
    · -- taken: 37
      refine lv_null hx hb d_p13m4_37 ?_
      refine W.eq (g2 := F0 m 38 ls [va_rf none]) rfl ?_
      exact pd_oret (v := none) X (Or.inl ⟨_, rfl⟩) w ⟨by rw [gr_verb_none (fun j hj2 => hj j (by omega))]; rfl, rfl⟩ (by decide) (by decide) d_p13m4_38
    · -- not taken: 10
      refine pd_gets X w (List.mem_of_getElem? (i := 2) rfl) mT_610 d_p13m4_10 ?_
      have f3 := pd_all X w
      refine lv_iload_n hx hb d_p13m4_13 rfl (lv_at hl 0 rfl) ?_
      refine pd_aald X w f3 rfl (by omega) (by omega) d_p13m4_14 ?_
      refine pd_top (v' := .ref (G.2.2.2 (10 + i))) rfl ?_
      refine pd_gvw (i := i) X w (by omega) mT_1510 d_p13m4_15 ?_
      have L4 : pd_Str h (G.2.2.2 (40 + pd_vw i)) (pd_lit (pd_vw i)) := pd_litS X w _ (pd_vw_lt i)
      obtain ⟨v5, g6, f7, f8, gf9, gc10, gl11⟩ := id L4
      refine lv_aload_n hx hb d_p13m4_18 rfl (lv_at hl 1 rfl) ?_
      refine pd_cV (a := (G.2.2.2 (40 + pd_vw i))) (As := [.ref a]) (rest := []) X w f7 rfl (c_String_equals l G h (by assumption) (by assumption)) ok_String_equals ⟨mT_613, mT_614⟩ mT_612 ⟨by decide, by decide⟩ rfl hl.1 rfl (Nat.le_of_ble_eq_true rfl) d_p13m4_19 ⟨by decide, by decide⟩ (fun r12 h13 H locs hp14 w => ?_)
      refine W.widen (k := 0) (n := 0) (by decide) (by decide) ?_
      obtain ⟨e15, rfl⟩ := hp14
      refine pd_beq (tgt := 31) hx hb d_p13m4_22 (by decide) (fun q16 => ?_) (fun q16 => ?_)
      · -- taken: 31
        refine pd_iinc (k := 0) (d := 1) (lv' := [(1, .int (nI (i + 1))), (0, .ref a)]) hx hb d_p13m4_31 (by decide) hl rfl (by decide) rfl (fun ls hl => ?_)
        refine lv_goto (tgt := 2) hx hb d_p13m4_34 (by decide) ?_
        exact ih (i + 1) (by omega) (fun j hj2 => by by_cases e : j = i; rw [e]; exact of_decide_eq_false (e15.symm.trans q16); exact hj j (by omega)) (by omega) _ _ w ls (lv_sub hl [0, 1] rfl)
      · -- not taken: 25
        refine pd_gets X w (List.mem_of_getElem? (i := 2) rfl) mT_610 d_p13m4_25 ?_
        have f17 := pd_all X w
        refine lv_iload_n hx hb d_p13m4_28 rfl (lv_at hl 0 rfl) ?_
        refine pd_aald X w f17 rfl (by omega) (by omega) d_p13m4_29 ?_
        refine pd_top (v' := .ref (G.2.2.2 (10 + i))) rfl ?_
        refine W.eq (g2 := F0 m 30 ls [va_rf (some (G.2.2.2 (10 + i)))]) rfl ?_
        exact pd_oret (v := (some (G.2.2.2 (10 + i)))) X (Or.inl ⟨_, rfl⟩) w ⟨by rw [gr_verb_some (by omega) hj (of_decide_eq_true (e15.symm.trans q16))]; rfl, rfl⟩ (by decide) (by decide) d_p13m4_30
set_option maxHeartbeats 4000000 in
set_option maxRecDepth 100000 in
theorem c_Verb_of (l : Launch) (G : pd_G) (h : pd_H) {a : Nat} {cs : List Nat} (hS : pd_Str h a cs) : pd_M l y_Verb_of prog_13_method_4_code 2 (some (.object "PolicyDesk$Verb")) rm_Verb_of G h [.ref a] va_rf (fun r h1 => r = (gr_verb cs).map (fun i => G.2.2.2 (10 + i)) ∧ h = h1) := by
  refine pd_M.of (by decide) (Nat.le_of_ble_eq_true rfl) ?_
  intro p e s m below meth c X hmn w ls hl
  have hx := X.1
  have hb := X.2.1
  have hl : lv_has ls 2 [(0, .ref a)] := hl
  obtain ⟨v1, f1, hv1, hv2, hvf, hvc, hvl⟩ := id hS
  refine lv_iconst (v := nI 0) hx hb d_p13m4_0 (by decide) ?_
  refine lv_istore_n (lv' := [(1, .int (nI 0)), (0, .ref a)]) hx hb d_p13m4_1 rfl hl (by decide) rfl (fun ls hl => ?_)
  exact lp_Verb_of_2 l G h hS X hmn (13 + 1) 0 (by omega) (fun j hj => absurd hj (Nat.not_lt_zero j)) (by omega) _ _ w ls (lv_sub hl [0, 1] rfl)
def gr_eim (cs : List Nat) : Bool := decide ((gr_cut cs).1 = 3) || (decide ((gr_cut cs).1 = 4) && gr_marks (gr_w cs 3))
def gr_nms (cs : List Nat) : Nat → Nat → Bool
  | 0, _ => true
  | n + 1, i => gr_name (gr_w cs i) && gr_nms cs n (i + 1)
def gr_head (cs : List Nat) (k : Nat) : Bool := decide ((gr_cut cs).1 ≤ k) && gr_name (gr_w cs 1) && (decide ((gr_cut cs).1 = 2) || (decide (3 < (gr_cut cs).1) && gr_nms cs ((gr_cut cs).1 - 3) 3 && decide (gr_w cs 2 = [58])))
theorem d_p6m4_0 : decode prog_6_method_4_code 0 = .ok (.aload_n 0, 1) := by decide +kernel
theorem d_p6m4_1 : decode prog_6_method_4_code 1 = .ok (.getfield 45, 3) := by decide +kernel
theorem d_p6m4_4 : decode prog_6_method_4_code 4 = .ok (.iconst 3, 1) := by decide +kernel
theorem d_p6m4_5 : decode prog_6_method_4_code 5 = .ok (.if_icmp .eq 22, 3) := by decide +kernel
theorem d_p6m4_8 : decode prog_6_method_4_code 8 = .ok (.aload_n 0, 1) := by decide +kernel
theorem d_p6m4_9 : decode prog_6_method_4_code 9 = .ok (.getfield 45, 3) := by decide +kernel
theorem d_p6m4_12 : decode prog_6_method_4_code 12 = .ok (.iconst 4, 1) := by decide +kernel
theorem d_p6m4_13 : decode prog_6_method_4_code 13 = .ok (.if_icmp .ne 18, 3) := by decide +kernel
theorem d_p6m4_16 : decode prog_6_method_4_code 16 = .ok (.aload_n 0, 1) := by decide +kernel
theorem d_p6m4_17 : decode prog_6_method_4_code 17 = .ok (.iconst 3, 1) := by decide +kernel
theorem d_p6m4_18 : decode prog_6_method_4_code 18 = .ok (.invokevirtual 25, 3) := by decide +kernel
theorem d_p6m4_21 : decode prog_6_method_4_code 21 = .ok (.invokestatic 66, 3) := by decide +kernel
theorem d_p6m4_24 : decode prog_6_method_4_code 24 = .ok (.ifCond .eq 7, 3) := by decide +kernel
theorem d_p6m4_27 : decode prog_6_method_4_code 27 = .ok (.iconst 1, 1) := by decide +kernel
theorem d_p6m4_28 : decode prog_6_method_4_code 28 = .ok (.goto 4, 3) := by decide +kernel
theorem d_p6m4_31 : decode prog_6_method_4_code 31 = .ok (.iconst 0, 1) := by decide +kernel
theorem d_p6m4_32 : decode prog_6_method_4_code 32 = .ok (.ireturn, 1) := by decide +kernel
abbrev y_Grammar_endsInMarks : MethodName := ⟨"PolicyDesk$Grammar", "endsInMarks", "(LPolicyDesk$Line;)Z"⟩
theorem ok_Grammar_endsInMarks : pd_ok y_Grammar_endsInMarks prog_6_method_4_code 1 (some .boolean) 1 := ⟨mT_729, mT_25, by decide, by decide +kernel⟩
abbrev rm_Grammar_endsInMarks : Room := { frames := 6, cells := 2, slots := 64, locals := 153 }
set_option maxHeartbeats 4000000 in
set_option maxRecDepth 100000 in
theorem c_Grammar_endsInMarks (l : Launch) (G : pd_G) (h : pd_H) {x : Nat} {cs : List Nat} (hL : pd_Ln h x cs) : pd_M l y_Grammar_endsInMarks prog_6_method_4_code 1 (some .boolean) rm_Grammar_endsInMarks G h [.ref x] pd_vb (fun r h1 => r = gr_eim cs ∧ pd_kx [] h h1) := by
  refine pd_M.of (by decide) (Nat.le_of_ble_eq_true rfl) ?_
  intro p e s m below meth c X hmn w ls hl
  have hx := X.1
  have hb := X.2.1
  have hl : lv_has ls 1 [(0, .ref x)] := hl
  obtain ⟨a, st, fA, hxa, hst, hnu, hS⟩ := id hL
  have hct := gr_cut_ok cs
  have hct6 := hct.1
  obtain ⟨v1, f1, hv1, hv2, hvf, hvc, hvl⟩ := id hS
  refine lv_aload_n hx hb d_p6m4_0 rfl (lv_at hl 0 rfl) ?_
  refine pd_get X w hxa rfl 1 (by decide) mT_543 rfl rfl d_p6m4_1 ?_
  refine lv_iconst (v := nI 3) hx hb d_p6m4_4 (by decide) ?_
  refine pd_jeq (tgt := 27) hx hb d_p6m4_5 (by decide) (by omega) (by omega) (fun q1 => ?_) (fun q1 => ?_)
  · -- taken: 27
    refine lv_iconst (v := nI 1) hx hb d_p6m4_27 (by decide) ?_
    refine lv_goto (tgt := 32) hx hb d_p6m4_28 (by decide) ?_
    refine W.eq (g2 := F0 m 32 ls [.int (pd_b true)]) rfl ?_
    exact pd_zret (v := true) X w ⟨by simp [gr_eim, q1], pd_kx.rf⟩ (by decide) (by decide) d_p6m4_32
  · -- not taken: 8
    refine lv_aload_n hx hb d_p6m4_8 rfl (lv_at hl 0 rfl) ?_
    refine pd_get X w hxa rfl 1 (by decide) mT_543 rfl rfl d_p6m4_9 ?_
    refine lv_iconst (v := nI 4) hx hb d_p6m4_12 (by decide) ?_
    refine pd_jne (tgt := 31) hx hb d_p6m4_13 (by decide) (by omega) (by omega) (fun q2 => ?_) (fun q2 => ?_)
    · -- taken: 31
      refine lv_iconst (v := nI 0) hx hb d_p6m4_31 (by decide) ?_
      refine W.eq (g2 := F0 m 32 ls [.int (pd_b false)]) rfl ?_
      exact pd_zret (v := false) X w ⟨by simp [gr_eim, q1, q2], pd_kx.rf⟩ (by decide) (by decide) d_p6m4_32
    · -- not taken: 16
      refine lv_aload_n hx hb d_p6m4_16 rfl (lv_at hl 0 rfl) ?_
      refine lv_iconst (v := nI 3) hx hb d_p6m4_17 (by decide) ?_
      refine pd_cV (a := x) (As := [.int (nI 3)]) (rest := []) X w hxa rfl (c_Line_word l G h (by assumption) (by omega)) ok_Line_word ⟨mT_574, mT_575⟩ mT_634 ⟨by decide, by decide⟩ rfl hl.1 rfl (Nat.le_of_ble_eq_true rfl) d_p6m4_18 ⟨by decide, by decide⟩ (fun r3 h4 H locs hp5 w => ?_)
      refine W.widen (k := 2) (n := 64) (by decide) (by decide) ?_
      obtain ⟨k6, ds7, e8, f9⟩ := hp5
      have f17 := k6 _ _ hxa List.not_mem_nil
      have f18 := k6 _ _ hv1 List.not_mem_nil
      have f19 := k6 _ _ hst List.not_mem_nil
      have f20 := k6 _ _ hv2 List.not_mem_nil
      have f21 := hL.kx k6 List.not_mem_nil
      have f22 := hS.kx k6 List.not_mem_nil
      obtain ⟨v10, g11, f12, f13, gf14, gc15, gl16⟩ := id f9
      refine pd_cS (As := [.ref r3]) (rest := []) X w (c_Grammar_isMarks l G h4 (by assumption)) ok_Grammar_isMarks mT_731 mT_730 ⟨by decide, by decide⟩ rfl hl.1 rfl (Nat.le_of_ble_eq_true rfl) d_p6m4_21 ⟨by decide, by decide⟩ (fun r23 h24 H locs hp25 w => ?_)
      refine W.widen (k := 2) (n := 64) (by decide) (by decide) ?_
      obtain ⟨e26, rfl⟩ := hp25
      refine pd_beq (tgt := 31) hx hb d_p6m4_24 (by decide) (fun q27 => ?_) (fun q27 => ?_)
      · -- taken: 31
        refine lv_iconst (v := nI 0) hx hb d_p6m4_31 (by decide) ?_
        simp only [e26, e8] at q27
        refine W.eq (g2 := F0 m 32 ls [.int (pd_b false)]) rfl ?_
        exact pd_zret (v := false) X w ⟨by simp [gr_eim, q1, q2, q27], k6⟩ (by decide) (by decide) d_p6m4_32
      · -- not taken: 27
        refine lv_iconst (v := nI 1) hx hb d_p6m4_27 (by decide) ?_
        refine lv_goto (tgt := 32) hx hb d_p6m4_28 (by decide) ?_
        simp only [e26, e8] at q27
        refine W.eq (g2 := F0 m 32 ls [.int (pd_b true)]) rfl ?_
        exact pd_zret (v := true) X w ⟨by simp [gr_eim, q1, q2, q27], k6⟩ (by decide) (by decide) d_p6m4_32
theorem d_p6m3_0 : decode prog_6_method_3_code 0 = .ok (.aload_n 0, 1) := by decide +kernel
theorem d_p6m3_1 : decode prog_6_method_3_code 1 = .ok (.getfield 45, 3) := by decide +kernel
theorem d_p6m3_4 : decode prog_6_method_3_code 4 = .ok (.iload_n 1, 1) := by decide +kernel
theorem d_p6m3_5 : decode prog_6_method_3_code 5 = .ok (.if_icmp .gt 14, 3) := by decide +kernel
theorem d_p6m3_8 : decode prog_6_method_3_code 8 = .ok (.aload_n 0, 1) := by decide +kernel
theorem d_p6m3_9 : decode prog_6_method_3_code 9 = .ok (.iconst 1, 1) := by decide +kernel
theorem d_p6m3_10 : decode prog_6_method_3_code 10 = .ok (.invokevirtual 25, 3) := by decide +kernel
theorem d_p6m3_13 : decode prog_6_method_3_code 13 = .ok (.invokestatic 55, 3) := by decide +kernel
theorem d_p6m3_16 : decode prog_6_method_3_code 16 = .ok (.ifCond .ne 5, 3) := by decide +kernel
theorem d_p6m3_19 : decode prog_6_method_3_code 19 = .ok (.iconst 0, 1) := by decide +kernel
theorem d_p6m3_20 : decode prog_6_method_3_code 20 = .ok (.ireturn, 1) := by decide +kernel
theorem d_p6m3_21 : decode prog_6_method_3_code 21 = .ok (.aload_n 0, 1) := by decide +kernel
theorem d_p6m3_22 : decode prog_6_method_3_code 22 = .ok (.getfield 45, 3) := by decide +kernel
theorem d_p6m3_25 : decode prog_6_method_3_code 25 = .ok (.iconst 2, 1) := by decide +kernel
theorem d_p6m3_26 : decode prog_6_method_3_code 26 = .ok (.if_icmp .ne 5, 3) := by decide +kernel
theorem d_p6m3_29 : decode prog_6_method_3_code 29 = .ok (.iconst 1, 1) := by decide +kernel
theorem d_p6m3_30 : decode prog_6_method_3_code 30 = .ok (.ireturn, 1) := by decide +kernel
theorem d_p6m3_31 : decode prog_6_method_3_code 31 = .ok (.iconst 3, 1) := by decide +kernel
theorem d_p6m3_32 : decode prog_6_method_3_code 32 = .ok (.istore_n 2, 1) := by decide +kernel
theorem d_p6m3_33 : decode prog_6_method_3_code 33 = .ok (.iload_n 2, 1) := by decide +kernel
theorem d_p6m3_34 : decode prog_6_method_3_code 34 = .ok (.aload_n 0, 1) := by decide +kernel
theorem d_p6m3_35 : decode prog_6_method_3_code 35 = .ok (.getfield 45, 3) := by decide +kernel
theorem d_p6m3_38 : decode prog_6_method_3_code 38 = .ok (.if_icmp .ge 22, 3) := by decide +kernel
theorem d_p6m3_41 : decode prog_6_method_3_code 41 = .ok (.aload_n 0, 1) := by decide +kernel
theorem d_p6m3_42 : decode prog_6_method_3_code 42 = .ok (.iload_n 2, 1) := by decide +kernel
theorem d_p6m3_43 : decode prog_6_method_3_code 43 = .ok (.invokevirtual 25, 3) := by decide +kernel
theorem d_p6m3_46 : decode prog_6_method_3_code 46 = .ok (.invokestatic 55, 3) := by decide +kernel
theorem d_p6m3_49 : decode prog_6_method_3_code 49 = .ok (.ifCond .ne 5, 3) := by decide +kernel
theorem d_p6m3_52 : decode prog_6_method_3_code 52 = .ok (.iconst 0, 1) := by decide +kernel
theorem d_p6m3_53 : decode prog_6_method_3_code 53 = .ok (.ireturn, 1) := by decide +kernel
theorem d_p6m3_54 : decode prog_6_method_3_code 54 = .ok (.iinc 2 1, 3) := by decide +kernel
theorem d_p6m3_57 : decode prog_6_method_3_code 57 = .ok (.goto (-24), 3) := by decide +kernel
theorem d_p6m3_60 : decode prog_6_method_3_code 60 = .ok (.aload_n 0, 1) := by decide +kernel
theorem d_p6m3_61 : decode prog_6_method_3_code 61 = .ok (.getfield 45, 3) := by decide +kernel
theorem d_p6m3_64 : decode prog_6_method_3_code 64 = .ok (.iconst 3, 1) := by decide +kernel
theorem d_p6m3_65 : decode prog_6_method_3_code 65 = .ok (.if_icmp .le 20, 3) := by decide +kernel
theorem d_p6m3_68 : decode prog_6_method_3_code 68 = .ok (.aload_n 0, 1) := by decide +kernel
theorem d_p6m3_69 : decode prog_6_method_3_code 69 = .ok (.iconst 2, 1) := by decide +kernel
theorem d_p6m3_70 : decode prog_6_method_3_code 70 = .ok (.invokevirtual 25, 3) := by decide +kernel
theorem d_p6m3_73 : decode prog_6_method_3_code 73 = .ok (.ldc 58, 2) := by decide +kernel
theorem d_p6m3_75 : decode prog_6_method_3_code 75 = .ok (.invokevirtual 60, 3) := by decide +kernel
theorem d_p6m3_78 : decode prog_6_method_3_code 78 = .ok (.ifCond .eq 7, 3) := by decide +kernel
theorem d_p6m3_81 : decode prog_6_method_3_code 81 = .ok (.iconst 1, 1) := by decide +kernel
theorem d_p6m3_82 : decode prog_6_method_3_code 82 = .ok (.goto 4, 3) := by decide +kernel
theorem d_p6m3_85 : decode prog_6_method_3_code 85 = .ok (.iconst 0, 1) := by decide +kernel
theorem d_p6m3_86 : decode prog_6_method_3_code 86 = .ok (.ireturn, 1) := by decide +kernel
abbrev y_Grammar_isHeading : MethodName := ⟨"PolicyDesk$Grammar", "isHeading", "(LPolicyDesk$Line;I)Z"⟩
theorem ok_Grammar_isHeading : pd_ok y_Grammar_isHeading prog_6_method_3_code 3 (some .boolean) 2 := ⟨mT_633, mT_25, by decide, by decide +kernel⟩
abbrev rm_Grammar_isHeading : Room := { frames := 6, cells := 10, slots := 320, locals := 153 }
set_option maxHeartbeats 4000000 in
set_option maxRecDepth 100000 in
theorem c_Grammar_isHeading (l : Launch) (G : pd_G) (h : pd_H) {x : Nat} {cs : List Nat} {k : Nat} (hL : pd_Ln h x cs) (hk5 : k = 5 ∨ k = 6) : pd_M l y_Grammar_isHeading prog_6_method_3_code 3 (some .boolean) rm_Grammar_isHeading G h [.ref x, .int (nI k)] pd_vb (fun r h1 => r = gr_head cs k ∧ pd_kx [] h h1) := by
  refine pd_M.of (by decide) (Nat.le_of_ble_eq_true rfl) ?_
  intro p e s m below meth c X hmn w ls hl
  have hx := X.1
  have hb := X.2.1
  have hl : lv_has ls 3 [(0, .ref x), (1, .int (nI k))] := hl
  obtain ⟨a, st, fA, hxa, hst, hnu, hS⟩ := id hL
  have hct := gr_cut_ok cs
  have hct6 := hct.1
  obtain ⟨v1, f1, hv1, hv2, hvf, hvc, hvl⟩ := id hS
  refine lv_aload_n hx hb d_p6m3_0 rfl (lv_at hl 0 rfl) ?_
  refine pd_get X w hxa rfl 1 (by decide) mT_543 rfl rfl d_p6m3_1 ?_
  refine lv_iload_n hx hb d_p6m3_4 rfl (lv_at hl 1 rfl) ?_
  refine pd_jgt (tgt := 19) hx hb d_p6m3_5 (by decide) (by omega) (by omega) (fun q1 => ?_) (fun q1 => ?_)
  · -- taken: 19
    refine lv_iconst (v := nI 0) hx hb d_p6m3_19 (by decide) ?_
    refine W.eq (g2 := F0 m 20 ls [.int (pd_b false)]) rfl ?_
    exact pd_zret (v := false) X w ⟨by rcases hk5 with e9 | e9 <;> rw [e9] <;> rcases (show (gr_cut cs).1 = 0 ∨ (gr_cut cs).1 = 1 ∨ (gr_cut cs).1 = 2 ∨ (gr_cut cs).1 = 3 ∨ (gr_cut cs).1 = 4 ∨ (gr_cut cs).1 = 5 ∨ (gr_cut cs).1 = 6 by omega) with z | z | z | z | z | z | z <;> first | (exfalso; omega) | simp [z, gr_head, gr_nms, q1], pd_kx.rf⟩ (by decide) (by decide) d_p6m3_20
  · -- not taken: 8
    refine lv_aload_n hx hb d_p6m3_8 rfl (lv_at hl 0 rfl) ?_
    refine lv_iconst (v := nI 1) hx hb d_p6m3_9 (by decide) ?_
    refine pd_cV (a := x) (As := [.int (nI 1)]) (rest := []) X w hxa rfl (c_Line_word l G h (by assumption) (by omega)) ok_Line_word ⟨mT_574, mT_575⟩ mT_634 ⟨by decide, by decide⟩ rfl hl.1 rfl (Nat.le_of_ble_eq_true rfl) d_p6m3_10 ⟨by decide, by decide⟩ (fun r2 h3 H locs hp4 w => ?_)
    refine W.widen (k := 2) (n := 64) (by decide) (by decide) ?_
    obtain ⟨k5, ds6, e7, f8⟩ := hp4
    have f16 := k5 _ _ hxa List.not_mem_nil
    have f17 := k5 _ _ hv1 List.not_mem_nil
    have f18 := k5 _ _ hst List.not_mem_nil
    have f19 := k5 _ _ hv2 List.not_mem_nil
    have f20 := hL.kx k5 List.not_mem_nil
    have f21 := hS.kx k5 List.not_mem_nil
    obtain ⟨v9, g10, f11, f12, gf13, gc14, gl15⟩ := id f8
    refine pd_cS (As := [.ref r2]) (rest := []) X w (c_Grammar_isName l G h3 (by assumption)) ok_Grammar_isName mT_636 mT_635 ⟨by decide, by decide⟩ rfl hl.1 rfl (Nat.le_of_ble_eq_true rfl) d_p6m3_13 ⟨by decide, by decide⟩ (fun r22 h23 H locs hp24 w => ?_)
    refine W.widen (k := 2) (n := 64) (by decide) (by decide) ?_
    obtain ⟨e25, rfl⟩ := hp24
    refine pd_bne (tgt := 21) hx hb d_p6m3_16 (by decide) (fun q26 => ?_) (fun q26 => ?_)
    · -- taken: 21
      refine lv_aload_n hx hb d_p6m3_21 rfl (lv_at hl 0 rfl) ?_
      refine pd_get X w f16 rfl 1 (by decide) mT_543 rfl rfl d_p6m3_22 ?_
      refine lv_iconst (v := nI 2) hx hb d_p6m3_25 (by decide) ?_
      refine pd_jne (tgt := 31) hx hb d_p6m3_26 (by decide) (by omega) (by omega) (fun q27 => ?_) (fun q27 => ?_)
      · -- taken: 31
        refine lv_iconst (v := nI 3) hx hb d_p6m3_31 (by decide) ?_
        refine lv_istore_n (lv' := [(2, .int (nI 3)), (0, .ref x), (1, .int (nI k))]) hx hb d_p6m3_32 rfl hl (by decide) rfl (fun ls hl => ?_)
        refine lv_iload_n hx hb d_p6m3_33 rfl (lv_at hl 0 rfl) ?_
        refine lv_aload_n hx hb d_p6m3_34 rfl (lv_at hl 1 rfl) ?_
        refine pd_get X w f16 rfl 1 (by decide) mT_543 rfl rfl d_p6m3_35 ?_
        refine pd_jge (tgt := 60) hx hb d_p6m3_38 (by decide) (by omega) (by omega) (fun q28 => ?_) (fun q28 => ?_)
        · -- taken: 60
          refine lv_aload_n hx hb d_p6m3_60 rfl (lv_at hl 1 rfl) ?_
          refine pd_get X w f16 rfl 1 (by decide) mT_543 rfl rfl d_p6m3_61 ?_
          refine lv_iconst (v := nI 3) hx hb d_p6m3_64 (by decide) ?_
          refine pd_jle (tgt := 85) hx hb d_p6m3_65 (by decide) (by omega) (by omega) (fun q29 => ?_) (fun q29 => ?_)
          · -- taken: 85
            refine lv_iconst (v := nI 0) hx hb d_p6m3_85 (by decide) ?_
            simp only [e25, e7] at q26
            refine W.eq (g2 := F0 m 86 ls [.int (pd_b false)]) rfl ?_
            exact pd_zret (v := false) X w ⟨by rcases hk5 with e9 | e9 <;> rw [e9] <;> rcases (show (gr_cut cs).1 = 0 ∨ (gr_cut cs).1 = 1 ∨ (gr_cut cs).1 = 2 ∨ (gr_cut cs).1 = 3 ∨ (gr_cut cs).1 = 4 ∨ (gr_cut cs).1 = 5 ∨ (gr_cut cs).1 = 6 by omega) with z | z | z | z | z | z | z <;> first | (exfalso; omega) | simp [z, gr_head, gr_nms, q1, q26, q27, q28, q29], k5⟩ (by decide) (by decide) d_p6m3_86
          · -- not taken: 68
            refine lv_aload_n hx hb d_p6m3_68 rfl (lv_at hl 1 rfl) ?_
            refine lv_iconst (v := nI 2) hx hb d_p6m3_69 (by decide) ?_
            refine pd_cV (a := x) (As := [.int (nI 2)]) (rest := []) X w f16 rfl (c_Line_word l G h3 (by assumption) (by omega)) ok_Line_word ⟨mT_574, mT_575⟩ mT_634 ⟨by decide, by decide⟩ rfl hl.1 rfl (Nat.le_of_ble_eq_true rfl) d_p6m3_70 ⟨by decide, by decide⟩ (fun r30 h31 H locs hp32 w => ?_)
            refine W.widen (k := 4) (n := 128) (by decide) (by decide) ?_
            obtain ⟨k33, ds34, e35, f36⟩ := hp32
            have f44 := k33 _ _ f16 List.not_mem_nil
            have f45 := k33 _ _ f17 List.not_mem_nil
            have f46 := k33 _ _ f11 List.not_mem_nil
            have f47 := k33 _ _ f18 List.not_mem_nil
            have f48 := k33 _ _ f19 List.not_mem_nil
            have f49 := k33 _ _ f12 List.not_mem_nil
            have f50 := f20.kx k33 List.not_mem_nil
            have f51 := f21.kx k33 List.not_mem_nil
            have f52 := f8.kx k33 List.not_mem_nil
            obtain ⟨v37, g38, f39, f40, gf41, gc42, gl43⟩ := id f36
            refine pd_ldc X (List.mem_of_getElem? (i := 5) rfl) d_p6m3_73 ?_
            have L53 : pd_Str h31 (G.2.2.2 45) [58] := pd_litS X w 5 (by decide)
            obtain ⟨v54, g55, f56, f57, gf58, gc59, gl60⟩ := id L53
            refine pd_cV (a := r30) (As := [.ref (G.2.2.2 45)]) (rest := []) X w f39 rfl (c_String_equals l G h31 (by assumption) (by assumption)) ok_String_equals ⟨mT_613, mT_614⟩ mT_644 ⟨by decide, by decide⟩ rfl hl.1 rfl (Nat.le_of_ble_eq_true rfl) d_p6m3_75 ⟨by decide, by decide⟩ (fun r61 h62 H locs hp63 w => ?_)
            refine W.widen (k := 4) (n := 128) (by decide) (by decide) ?_
            obtain ⟨e64, rfl⟩ := hp63
            refine pd_beq (tgt := 85) hx hb d_p6m3_78 (by decide) (fun q65 => ?_) (fun q65 => ?_)
            · -- taken: 85
              refine lv_iconst (v := nI 0) hx hb d_p6m3_85 (by decide) ?_
              simp only [e25, e7, e35] at q26
              simp only [e64, e7, e35] at q65
              refine W.eq (g2 := F0 m 86 ls [.int (pd_b false)]) rfl ?_
              exact pd_zret (v := false) X w ⟨by rcases hk5 with e9 | e9 <;> rw [e9] <;> rcases (show (gr_cut cs).1 = 0 ∨ (gr_cut cs).1 = 1 ∨ (gr_cut cs).1 = 2 ∨ (gr_cut cs).1 = 3 ∨ (gr_cut cs).1 = 4 ∨ (gr_cut cs).1 = 5 ∨ (gr_cut cs).1 = 6 by omega) with z | z | z | z | z | z | z <;> first | (exfalso; omega) | simp [z, gr_head, gr_nms, q1, q26, q27, q28, q29, q65], pd_kx.tr (k5) (k33)⟩ (by decide) (by decide) d_p6m3_86
            · -- not taken: 81
              refine lv_iconst (v := nI 1) hx hb d_p6m3_81 (by decide) ?_
              refine lv_goto (tgt := 86) hx hb d_p6m3_82 (by decide) ?_
              simp only [e25, e7, e35] at q26
              simp only [e64, e7, e35] at q65
              refine W.eq (g2 := F0 m 86 ls [.int (pd_b true)]) rfl ?_
              exact pd_zret (v := true) X w ⟨by rcases hk5 with e9 | e9 <;> rw [e9] <;> rcases (show (gr_cut cs).1 = 0 ∨ (gr_cut cs).1 = 1 ∨ (gr_cut cs).1 = 2 ∨ (gr_cut cs).1 = 3 ∨ (gr_cut cs).1 = 4 ∨ (gr_cut cs).1 = 5 ∨ (gr_cut cs).1 = 6 by omega) with z | z | z | z | z | z | z <;> first | (exfalso; omega) | simp [z, gr_head, gr_nms, q1, q26, q27, q28, q29, q65], pd_kx.tr (k5) (k33)⟩ (by decide) (by decide) d_p6m3_86
        · -- not taken: 41
          refine lv_aload_n hx hb d_p6m3_41 rfl (lv_at hl 1 rfl) ?_
          refine lv_iload_n hx hb d_p6m3_42 rfl (lv_at hl 0 rfl) ?_
          refine pd_cV (a := x) (As := [.int (nI 3)]) (rest := []) X w f16 rfl (c_Line_word l G h3 (by assumption) (by omega)) ok_Line_word ⟨mT_574, mT_575⟩ mT_634 ⟨by decide, by decide⟩ rfl hl.1 rfl (Nat.le_of_ble_eq_true rfl) d_p6m3_43 ⟨by decide, by decide⟩ (fun r66 h67 H locs hp68 w => ?_)
          refine W.widen (k := 4) (n := 128) (by decide) (by decide) ?_
          obtain ⟨k69, ds70, e71, f72⟩ := hp68
          have f80 := k69 _ _ f16 List.not_mem_nil
          have f81 := k69 _ _ f17 List.not_mem_nil
          have f82 := k69 _ _ f11 List.not_mem_nil
          have f83 := k69 _ _ f18 List.not_mem_nil
          have f84 := k69 _ _ f19 List.not_mem_nil
          have f85 := k69 _ _ f12 List.not_mem_nil
          have f86 := f20.kx k69 List.not_mem_nil
          have f87 := f21.kx k69 List.not_mem_nil
          have f88 := f8.kx k69 List.not_mem_nil
          obtain ⟨v73, g74, f75, f76, gf77, gc78, gl79⟩ := id f72
          refine pd_cS (As := [.ref r66]) (rest := []) X w (c_Grammar_isName l G h67 (by assumption)) ok_Grammar_isName mT_636 mT_635 ⟨by decide, by decide⟩ rfl hl.1 rfl (Nat.le_of_ble_eq_true rfl) d_p6m3_46 ⟨by decide, by decide⟩ (fun r89 h90 H locs hp91 w => ?_)
          refine W.widen (k := 4) (n := 128) (by decide) (by decide) ?_
          obtain ⟨e92, rfl⟩ := hp91
          refine pd_bne (tgt := 54) hx hb d_p6m3_49 (by decide) (fun q93 => ?_) (fun q93 => ?_)
          · -- taken: 54
            refine pd_iinc (k := 0) (d := 1) (lv' := [(2, .int (nI 4)), (0, .ref x), (1, .int (nI k))]) hx hb d_p6m3_54 (by decide) hl rfl (by decide) rfl (fun ls hl => ?_)
            refine lv_goto (tgt := 33) hx hb d_p6m3_57 (by decide) ?_
            refine lv_iload_n hx hb d_p6m3_33 rfl (lv_at hl 0 rfl) ?_
            refine lv_aload_n hx hb d_p6m3_34 rfl (lv_at hl 1 rfl) ?_
            refine pd_get X w f80 rfl 1 (by decide) mT_543 rfl rfl d_p6m3_35 ?_
            refine pd_jge (tgt := 60) hx hb d_p6m3_38 (by decide) (by omega) (by omega) (fun q94 => ?_) (fun q94 => ?_)
            · -- taken: 60
              refine lv_aload_n hx hb d_p6m3_60 rfl (lv_at hl 1 rfl) ?_
              refine pd_get X w f80 rfl 1 (by decide) mT_543 rfl rfl d_p6m3_61 ?_
              refine lv_iconst (v := nI 3) hx hb d_p6m3_64 (by decide) ?_
              refine pd_jle (tgt := 85) hx hb d_p6m3_65 (by decide) (by omega) (by omega) (fun q95 => ?_) (fun q95 => ?_)
              · -- taken: 85
                refine lv_iconst (v := nI 0) hx hb d_p6m3_85 (by decide) ?_
                simp only [e25, e7, e71] at q26
                simp only [e92, e7, e71] at q93
                refine W.eq (g2 := F0 m 86 ls [.int (pd_b false)]) rfl ?_
                exact pd_zret (v := false) X w ⟨by rcases hk5 with e9 | e9 <;> rw [e9] <;> rcases (show (gr_cut cs).1 = 0 ∨ (gr_cut cs).1 = 1 ∨ (gr_cut cs).1 = 2 ∨ (gr_cut cs).1 = 3 ∨ (gr_cut cs).1 = 4 ∨ (gr_cut cs).1 = 5 ∨ (gr_cut cs).1 = 6 by omega) with z | z | z | z | z | z | z <;> first | (exfalso; omega) | simp [z, gr_head, gr_nms, q1, q26, q27, q28, q93, q94, q95], pd_kx.tr (k5) (k69)⟩ (by decide) (by decide) d_p6m3_86
              · -- not taken: 68
                refine lv_aload_n hx hb d_p6m3_68 rfl (lv_at hl 1 rfl) ?_
                refine lv_iconst (v := nI 2) hx hb d_p6m3_69 (by decide) ?_
                refine pd_cV (a := x) (As := [.int (nI 2)]) (rest := []) X w f80 rfl (c_Line_word l G h67 (by assumption) (by omega)) ok_Line_word ⟨mT_574, mT_575⟩ mT_634 ⟨by decide, by decide⟩ rfl hl.1 rfl (Nat.le_of_ble_eq_true rfl) d_p6m3_70 ⟨by decide, by decide⟩ (fun r96 h97 H locs hp98 w => ?_)
                refine W.widen (k := 6) (n := 192) (by decide) (by decide) ?_
                obtain ⟨k99, ds100, e101, f102⟩ := hp98
                have f110 := k99 _ _ f80 List.not_mem_nil
                have f111 := k99 _ _ f81 List.not_mem_nil
                have f112 := k99 _ _ f82 List.not_mem_nil
                have f113 := k99 _ _ f75 List.not_mem_nil
                have f114 := k99 _ _ f83 List.not_mem_nil
                have f115 := k99 _ _ f84 List.not_mem_nil
                have f116 := k99 _ _ f85 List.not_mem_nil
                have f117 := k99 _ _ f76 List.not_mem_nil
                have f118 := f86.kx k99 List.not_mem_nil
                have f119 := f87.kx k99 List.not_mem_nil
                have f120 := f88.kx k99 List.not_mem_nil
                have f121 := f72.kx k99 List.not_mem_nil
                obtain ⟨v103, g104, f105, f106, gf107, gc108, gl109⟩ := id f102
                refine pd_ldc X (List.mem_of_getElem? (i := 5) rfl) d_p6m3_73 ?_
                have L122 : pd_Str h97 (G.2.2.2 45) [58] := pd_litS X w 5 (by decide)
                obtain ⟨v123, g124, f125, f126, gf127, gc128, gl129⟩ := id L122
                refine pd_cV (a := r96) (As := [.ref (G.2.2.2 45)]) (rest := []) X w f105 rfl (c_String_equals l G h97 (by assumption) (by assumption)) ok_String_equals ⟨mT_613, mT_614⟩ mT_644 ⟨by decide, by decide⟩ rfl hl.1 rfl (Nat.le_of_ble_eq_true rfl) d_p6m3_75 ⟨by decide, by decide⟩ (fun r130 h131 H locs hp132 w => ?_)
                refine W.widen (k := 6) (n := 192) (by decide) (by decide) ?_
                obtain ⟨e133, rfl⟩ := hp132
                refine pd_beq (tgt := 85) hx hb d_p6m3_78 (by decide) (fun q134 => ?_) (fun q134 => ?_)
                · -- taken: 85
                  refine lv_iconst (v := nI 0) hx hb d_p6m3_85 (by decide) ?_
                  simp only [e25, e7, e71, e101] at q26
                  simp only [e92, e7, e71, e101] at q93
                  simp only [e133, e7, e71, e101] at q134
                  refine W.eq (g2 := F0 m 86 ls [.int (pd_b false)]) rfl ?_
                  exact pd_zret (v := false) X w ⟨by rcases hk5 with e9 | e9 <;> rw [e9] <;> rcases (show (gr_cut cs).1 = 0 ∨ (gr_cut cs).1 = 1 ∨ (gr_cut cs).1 = 2 ∨ (gr_cut cs).1 = 3 ∨ (gr_cut cs).1 = 4 ∨ (gr_cut cs).1 = 5 ∨ (gr_cut cs).1 = 6 by omega) with z | z | z | z | z | z | z <;> first | (exfalso; omega) | simp [z, gr_head, gr_nms, q1, q26, q27, q28, q93, q94, q95, q134], pd_kx.tr (pd_kx.tr (k5) (k69)) (k99)⟩ (by decide) (by decide) d_p6m3_86
                · -- not taken: 81
                  refine lv_iconst (v := nI 1) hx hb d_p6m3_81 (by decide) ?_
                  refine lv_goto (tgt := 86) hx hb d_p6m3_82 (by decide) ?_
                  simp only [e25, e7, e71, e101] at q26
                  simp only [e92, e7, e71, e101] at q93
                  simp only [e133, e7, e71, e101] at q134
                  refine W.eq (g2 := F0 m 86 ls [.int (pd_b true)]) rfl ?_
                  exact pd_zret (v := true) X w ⟨by rcases hk5 with e9 | e9 <;> rw [e9] <;> rcases (show (gr_cut cs).1 = 0 ∨ (gr_cut cs).1 = 1 ∨ (gr_cut cs).1 = 2 ∨ (gr_cut cs).1 = 3 ∨ (gr_cut cs).1 = 4 ∨ (gr_cut cs).1 = 5 ∨ (gr_cut cs).1 = 6 by omega) with z | z | z | z | z | z | z <;> first | (exfalso; omega) | simp [z, gr_head, gr_nms, q1, q26, q27, q28, q93, q94, q95, q134], pd_kx.tr (pd_kx.tr (k5) (k69)) (k99)⟩ (by decide) (by decide) d_p6m3_86
            · -- not taken: 41
              refine lv_aload_n hx hb d_p6m3_41 rfl (lv_at hl 1 rfl) ?_
              refine lv_iload_n hx hb d_p6m3_42 rfl (lv_at hl 0 rfl) ?_
              refine pd_cV (a := x) (As := [.int (nI 4)]) (rest := []) X w f80 rfl (c_Line_word l G h67 (by assumption) (by omega)) ok_Line_word ⟨mT_574, mT_575⟩ mT_634 ⟨by decide, by decide⟩ rfl hl.1 rfl (Nat.le_of_ble_eq_true rfl) d_p6m3_43 ⟨by decide, by decide⟩ (fun r135 h136 H locs hp137 w => ?_)
              refine W.widen (k := 6) (n := 192) (by decide) (by decide) ?_
              obtain ⟨k138, ds139, e140, f141⟩ := hp137
              have f149 := k138 _ _ f80 List.not_mem_nil
              have f150 := k138 _ _ f81 List.not_mem_nil
              have f151 := k138 _ _ f82 List.not_mem_nil
              have f152 := k138 _ _ f75 List.not_mem_nil
              have f153 := k138 _ _ f83 List.not_mem_nil
              have f154 := k138 _ _ f84 List.not_mem_nil
              have f155 := k138 _ _ f85 List.not_mem_nil
              have f156 := k138 _ _ f76 List.not_mem_nil
              have f157 := f86.kx k138 List.not_mem_nil
              have f158 := f87.kx k138 List.not_mem_nil
              have f159 := f88.kx k138 List.not_mem_nil
              have f160 := f72.kx k138 List.not_mem_nil
              obtain ⟨v142, g143, f144, f145, gf146, gc147, gl148⟩ := id f141
              refine pd_cS (As := [.ref r135]) (rest := []) X w (c_Grammar_isName l G h136 (by assumption)) ok_Grammar_isName mT_636 mT_635 ⟨by decide, by decide⟩ rfl hl.1 rfl (Nat.le_of_ble_eq_true rfl) d_p6m3_46 ⟨by decide, by decide⟩ (fun r161 h162 H locs hp163 w => ?_)
              refine W.widen (k := 6) (n := 192) (by decide) (by decide) ?_
              obtain ⟨e164, rfl⟩ := hp163
              refine pd_bne (tgt := 54) hx hb d_p6m3_49 (by decide) (fun q165 => ?_) (fun q165 => ?_)
              · -- taken: 54
                refine pd_iinc (k := 0) (d := 1) (lv' := [(2, .int (nI 5)), (0, .ref x), (1, .int (nI k))]) hx hb d_p6m3_54 (by decide) hl rfl (by decide) rfl (fun ls hl => ?_)
                refine lv_goto (tgt := 33) hx hb d_p6m3_57 (by decide) ?_
                refine lv_iload_n hx hb d_p6m3_33 rfl (lv_at hl 0 rfl) ?_
                refine lv_aload_n hx hb d_p6m3_34 rfl (lv_at hl 1 rfl) ?_
                refine pd_get X w f149 rfl 1 (by decide) mT_543 rfl rfl d_p6m3_35 ?_
                refine pd_jge (tgt := 60) hx hb d_p6m3_38 (by decide) (by omega) (by omega) (fun q166 => ?_) (fun q166 => ?_)
                · -- taken: 60
                  refine lv_aload_n hx hb d_p6m3_60 rfl (lv_at hl 1 rfl) ?_
                  refine pd_get X w f149 rfl 1 (by decide) mT_543 rfl rfl d_p6m3_61 ?_
                  refine lv_iconst (v := nI 3) hx hb d_p6m3_64 (by decide) ?_
                  refine pd_jle (tgt := 85) hx hb d_p6m3_65 (by decide) (by omega) (by omega) (fun q167 => ?_) (fun q167 => ?_)
                  · -- taken: 85
                    refine lv_iconst (v := nI 0) hx hb d_p6m3_85 (by decide) ?_
                    simp only [e25, e7, e71, e140] at q26
                    simp only [e92, e7, e71, e140] at q93
                    simp only [e164, e7, e71, e140] at q165
                    refine W.eq (g2 := F0 m 86 ls [.int (pd_b false)]) rfl ?_
                    exact pd_zret (v := false) X w ⟨by rcases hk5 with e9 | e9 <;> rw [e9] <;> rcases (show (gr_cut cs).1 = 0 ∨ (gr_cut cs).1 = 1 ∨ (gr_cut cs).1 = 2 ∨ (gr_cut cs).1 = 3 ∨ (gr_cut cs).1 = 4 ∨ (gr_cut cs).1 = 5 ∨ (gr_cut cs).1 = 6 by omega) with z | z | z | z | z | z | z <;> first | (exfalso; omega) | simp [z, gr_head, gr_nms, q1, q26, q27, q28, q93, q94, q165, q166, q167], pd_kx.tr (pd_kx.tr (k5) (k69)) (k138)⟩ (by decide) (by decide) d_p6m3_86
                  · -- not taken: 68
                    refine lv_aload_n hx hb d_p6m3_68 rfl (lv_at hl 1 rfl) ?_
                    refine lv_iconst (v := nI 2) hx hb d_p6m3_69 (by decide) ?_
                    refine pd_cV (a := x) (As := [.int (nI 2)]) (rest := []) X w f149 rfl (c_Line_word l G h136 (by assumption) (by omega)) ok_Line_word ⟨mT_574, mT_575⟩ mT_634 ⟨by decide, by decide⟩ rfl hl.1 rfl (Nat.le_of_ble_eq_true rfl) d_p6m3_70 ⟨by decide, by decide⟩ (fun r168 h169 H locs hp170 w => ?_)
                    refine W.widen (k := 8) (n := 256) (by decide) (by decide) ?_
                    obtain ⟨k171, ds172, e173, f174⟩ := hp170
                    have f182 := k171 _ _ f149 List.not_mem_nil
                    have f183 := k171 _ _ f150 List.not_mem_nil
                    have f184 := k171 _ _ f151 List.not_mem_nil
                    have f185 := k171 _ _ f152 List.not_mem_nil
                    have f186 := k171 _ _ f144 List.not_mem_nil
                    have f187 := k171 _ _ f153 List.not_mem_nil
                    have f188 := k171 _ _ f154 List.not_mem_nil
                    have f189 := k171 _ _ f155 List.not_mem_nil
                    have f190 := k171 _ _ f156 List.not_mem_nil
                    have f191 := k171 _ _ f145 List.not_mem_nil
                    have f192 := f157.kx k171 List.not_mem_nil
                    have f193 := f158.kx k171 List.not_mem_nil
                    have f194 := f159.kx k171 List.not_mem_nil
                    have f195 := f160.kx k171 List.not_mem_nil
                    have f196 := f141.kx k171 List.not_mem_nil
                    obtain ⟨v175, g176, f177, f178, gf179, gc180, gl181⟩ := id f174
                    refine pd_ldc X (List.mem_of_getElem? (i := 5) rfl) d_p6m3_73 ?_
                    have L197 : pd_Str h169 (G.2.2.2 45) [58] := pd_litS X w 5 (by decide)
                    obtain ⟨v198, g199, f200, f201, gf202, gc203, gl204⟩ := id L197
                    refine pd_cV (a := r168) (As := [.ref (G.2.2.2 45)]) (rest := []) X w f177 rfl (c_String_equals l G h169 (by assumption) (by assumption)) ok_String_equals ⟨mT_613, mT_614⟩ mT_644 ⟨by decide, by decide⟩ rfl hl.1 rfl (Nat.le_of_ble_eq_true rfl) d_p6m3_75 ⟨by decide, by decide⟩ (fun r205 h206 H locs hp207 w => ?_)
                    refine W.widen (k := 8) (n := 256) (by decide) (by decide) ?_
                    obtain ⟨e208, rfl⟩ := hp207
                    refine pd_beq (tgt := 85) hx hb d_p6m3_78 (by decide) (fun q209 => ?_) (fun q209 => ?_)
                    · -- taken: 85
                      refine lv_iconst (v := nI 0) hx hb d_p6m3_85 (by decide) ?_
                      simp only [e25, e7, e71, e140, e173] at q26
                      simp only [e92, e7, e71, e140, e173] at q93
                      simp only [e164, e7, e71, e140, e173] at q165
                      simp only [e208, e7, e71, e140, e173] at q209
                      refine W.eq (g2 := F0 m 86 ls [.int (pd_b false)]) rfl ?_
                      exact pd_zret (v := false) X w ⟨by rcases hk5 with e9 | e9 <;> rw [e9] <;> rcases (show (gr_cut cs).1 = 0 ∨ (gr_cut cs).1 = 1 ∨ (gr_cut cs).1 = 2 ∨ (gr_cut cs).1 = 3 ∨ (gr_cut cs).1 = 4 ∨ (gr_cut cs).1 = 5 ∨ (gr_cut cs).1 = 6 by omega) with z | z | z | z | z | z | z <;> first | (exfalso; omega) | simp [z, gr_head, gr_nms, q1, q26, q27, q28, q93, q94, q165, q166, q167, q209], pd_kx.tr (pd_kx.tr (pd_kx.tr (k5) (k69)) (k138)) (k171)⟩ (by decide) (by decide) d_p6m3_86
                    · -- not taken: 81
                      refine lv_iconst (v := nI 1) hx hb d_p6m3_81 (by decide) ?_
                      refine lv_goto (tgt := 86) hx hb d_p6m3_82 (by decide) ?_
                      simp only [e25, e7, e71, e140, e173] at q26
                      simp only [e92, e7, e71, e140, e173] at q93
                      simp only [e164, e7, e71, e140, e173] at q165
                      simp only [e208, e7, e71, e140, e173] at q209
                      refine W.eq (g2 := F0 m 86 ls [.int (pd_b true)]) rfl ?_
                      exact pd_zret (v := true) X w ⟨by rcases hk5 with e9 | e9 <;> rw [e9] <;> rcases (show (gr_cut cs).1 = 0 ∨ (gr_cut cs).1 = 1 ∨ (gr_cut cs).1 = 2 ∨ (gr_cut cs).1 = 3 ∨ (gr_cut cs).1 = 4 ∨ (gr_cut cs).1 = 5 ∨ (gr_cut cs).1 = 6 by omega) with z | z | z | z | z | z | z <;> first | (exfalso; omega) | simp [z, gr_head, gr_nms, q1, q26, q27, q28, q93, q94, q165, q166, q167, q209], pd_kx.tr (pd_kx.tr (pd_kx.tr (k5) (k69)) (k138)) (k171)⟩ (by decide) (by decide) d_p6m3_86
                · -- not taken: 41
                  refine lv_aload_n hx hb d_p6m3_41 rfl (lv_at hl 1 rfl) ?_
                  refine lv_iload_n hx hb d_p6m3_42 rfl (lv_at hl 0 rfl) ?_
                  refine pd_cV (a := x) (As := [.int (nI 5)]) (rest := []) X w f149 rfl (c_Line_word l G h136 (by assumption) (by omega)) ok_Line_word ⟨mT_574, mT_575⟩ mT_634 ⟨by decide, by decide⟩ rfl hl.1 rfl (Nat.le_of_ble_eq_true rfl) d_p6m3_43 ⟨by decide, by decide⟩ (fun r210 h211 H locs hp212 w => ?_)
                  refine W.widen (k := 8) (n := 256) (by decide) (by decide) ?_
                  obtain ⟨k213, ds214, e215, f216⟩ := hp212
                  have f224 := k213 _ _ f149 List.not_mem_nil
                  have f225 := k213 _ _ f150 List.not_mem_nil
                  have f226 := k213 _ _ f151 List.not_mem_nil
                  have f227 := k213 _ _ f152 List.not_mem_nil
                  have f228 := k213 _ _ f144 List.not_mem_nil
                  have f229 := k213 _ _ f153 List.not_mem_nil
                  have f230 := k213 _ _ f154 List.not_mem_nil
                  have f231 := k213 _ _ f155 List.not_mem_nil
                  have f232 := k213 _ _ f156 List.not_mem_nil
                  have f233 := k213 _ _ f145 List.not_mem_nil
                  have f234 := f157.kx k213 List.not_mem_nil
                  have f235 := f158.kx k213 List.not_mem_nil
                  have f236 := f159.kx k213 List.not_mem_nil
                  have f237 := f160.kx k213 List.not_mem_nil
                  have f238 := f141.kx k213 List.not_mem_nil
                  obtain ⟨v217, g218, f219, f220, gf221, gc222, gl223⟩ := id f216
                  refine pd_cS (As := [.ref r210]) (rest := []) X w (c_Grammar_isName l G h211 (by assumption)) ok_Grammar_isName mT_636 mT_635 ⟨by decide, by decide⟩ rfl hl.1 rfl (Nat.le_of_ble_eq_true rfl) d_p6m3_46 ⟨by decide, by decide⟩ (fun r239 h240 H locs hp241 w => ?_)
                  refine W.widen (k := 8) (n := 256) (by decide) (by decide) ?_
                  obtain ⟨e242, rfl⟩ := hp241
                  refine pd_bne (tgt := 54) hx hb d_p6m3_49 (by decide) (fun q243 => ?_) (fun q243 => ?_)
                  · -- taken: 54
                    refine pd_iinc (k := 0) (d := 1) (lv' := [(2, .int (nI 6)), (0, .ref x), (1, .int (nI k))]) hx hb d_p6m3_54 (by decide) hl rfl (by decide) rfl (fun ls hl => ?_)
                    refine lv_goto (tgt := 33) hx hb d_p6m3_57 (by decide) ?_
                    refine lv_iload_n hx hb d_p6m3_33 rfl (lv_at hl 0 rfl) ?_
                    refine lv_aload_n hx hb d_p6m3_34 rfl (lv_at hl 1 rfl) ?_
                    refine pd_get X w f224 rfl 1 (by decide) mT_543 rfl rfl d_p6m3_35 ?_
                    refine pd_jge (tgt := 60) hx hb d_p6m3_38 (by decide) (by omega) (by omega) (fun q244 => ?_) (fun q244 => ?_)
                    · -- taken: 60
                      refine lv_aload_n hx hb d_p6m3_60 rfl (lv_at hl 1 rfl) ?_
                      refine pd_get X w f224 rfl 1 (by decide) mT_543 rfl rfl d_p6m3_61 ?_
                      refine lv_iconst (v := nI 3) hx hb d_p6m3_64 (by decide) ?_
                      refine pd_jle (tgt := 85) hx hb d_p6m3_65 (by decide) (by omega) (by omega) (fun q245 => ?_) (fun q245 => ?_)
                      · -- taken: 85
                        refine lv_iconst (v := nI 0) hx hb d_p6m3_85 (by decide) ?_
                        simp only [e25, e7, e71, e140, e215] at q26
                        simp only [e92, e7, e71, e140, e215] at q93
                        simp only [e164, e7, e71, e140, e215] at q165
                        simp only [e242, e7, e71, e140, e215] at q243
                        refine W.eq (g2 := F0 m 86 ls [.int (pd_b false)]) rfl ?_
                        exact pd_zret (v := false) X w ⟨by rcases hk5 with e9 | e9 <;> rw [e9] <;> rcases (show (gr_cut cs).1 = 0 ∨ (gr_cut cs).1 = 1 ∨ (gr_cut cs).1 = 2 ∨ (gr_cut cs).1 = 3 ∨ (gr_cut cs).1 = 4 ∨ (gr_cut cs).1 = 5 ∨ (gr_cut cs).1 = 6 by omega) with z | z | z | z | z | z | z <;> first | (exfalso; omega) | simp [z, gr_head, gr_nms, q1, q26, q27, q28, q93, q94, q165, q166, q243, q244, q245], pd_kx.tr (pd_kx.tr (pd_kx.tr (k5) (k69)) (k138)) (k213)⟩ (by decide) (by decide) d_p6m3_86
                      · -- not taken: 68
                        refine lv_aload_n hx hb d_p6m3_68 rfl (lv_at hl 1 rfl) ?_
                        refine lv_iconst (v := nI 2) hx hb d_p6m3_69 (by decide) ?_
                        refine pd_cV (a := x) (As := [.int (nI 2)]) (rest := []) X w f224 rfl (c_Line_word l G h211 (by assumption) (by omega)) ok_Line_word ⟨mT_574, mT_575⟩ mT_634 ⟨by decide, by decide⟩ rfl hl.1 rfl (Nat.le_of_ble_eq_true rfl) d_p6m3_70 ⟨by decide, by decide⟩ (fun r246 h247 H locs hp248 w => ?_)
                        refine W.widen (k := 10) (n := 320) (by decide) (by decide) ?_
                        obtain ⟨k249, ds250, e251, f252⟩ := hp248
                        have f260 := k249 _ _ f224 List.not_mem_nil
                        have f261 := k249 _ _ f225 List.not_mem_nil
                        have f262 := k249 _ _ f226 List.not_mem_nil
                        have f263 := k249 _ _ f227 List.not_mem_nil
                        have f264 := k249 _ _ f228 List.not_mem_nil
                        have f265 := k249 _ _ f219 List.not_mem_nil
                        have f266 := k249 _ _ f229 List.not_mem_nil
                        have f267 := k249 _ _ f230 List.not_mem_nil
                        have f268 := k249 _ _ f231 List.not_mem_nil
                        have f269 := k249 _ _ f232 List.not_mem_nil
                        have f270 := k249 _ _ f233 List.not_mem_nil
                        have f271 := k249 _ _ f220 List.not_mem_nil
                        have f272 := f234.kx k249 List.not_mem_nil
                        have f273 := f235.kx k249 List.not_mem_nil
                        have f274 := f236.kx k249 List.not_mem_nil
                        have f275 := f237.kx k249 List.not_mem_nil
                        have f276 := f238.kx k249 List.not_mem_nil
                        have f277 := f216.kx k249 List.not_mem_nil
                        obtain ⟨v253, g254, f255, f256, gf257, gc258, gl259⟩ := id f252
                        refine pd_ldc X (List.mem_of_getElem? (i := 5) rfl) d_p6m3_73 ?_
                        have L278 : pd_Str h247 (G.2.2.2 45) [58] := pd_litS X w 5 (by decide)
                        obtain ⟨v279, g280, f281, f282, gf283, gc284, gl285⟩ := id L278
                        refine pd_cV (a := r246) (As := [.ref (G.2.2.2 45)]) (rest := []) X w f255 rfl (c_String_equals l G h247 (by assumption) (by assumption)) ok_String_equals ⟨mT_613, mT_614⟩ mT_644 ⟨by decide, by decide⟩ rfl hl.1 rfl (Nat.le_of_ble_eq_true rfl) d_p6m3_75 ⟨by decide, by decide⟩ (fun r286 h287 H locs hp288 w => ?_)
                        refine W.widen (k := 10) (n := 320) (by decide) (by decide) ?_
                        obtain ⟨e289, rfl⟩ := hp288
                        refine pd_beq (tgt := 85) hx hb d_p6m3_78 (by decide) (fun q290 => ?_) (fun q290 => ?_)
                        · -- taken: 85
                          refine lv_iconst (v := nI 0) hx hb d_p6m3_85 (by decide) ?_
                          simp only [e25, e7, e71, e140, e215, e251] at q26
                          simp only [e92, e7, e71, e140, e215, e251] at q93
                          simp only [e164, e7, e71, e140, e215, e251] at q165
                          simp only [e242, e7, e71, e140, e215, e251] at q243
                          simp only [e289, e7, e71, e140, e215, e251] at q290
                          refine W.eq (g2 := F0 m 86 ls [.int (pd_b false)]) rfl ?_
                          exact pd_zret (v := false) X w ⟨by rcases hk5 with e9 | e9 <;> rw [e9] <;> rcases (show (gr_cut cs).1 = 0 ∨ (gr_cut cs).1 = 1 ∨ (gr_cut cs).1 = 2 ∨ (gr_cut cs).1 = 3 ∨ (gr_cut cs).1 = 4 ∨ (gr_cut cs).1 = 5 ∨ (gr_cut cs).1 = 6 by omega) with z | z | z | z | z | z | z <;> first | (exfalso; omega) | simp [z, gr_head, gr_nms, q1, q26, q27, q28, q93, q94, q165, q166, q243, q244, q245, q290], pd_kx.tr (pd_kx.tr (pd_kx.tr (pd_kx.tr (k5) (k69)) (k138)) (k213)) (k249)⟩ (by decide) (by decide) d_p6m3_86
                        · -- not taken: 81
                          refine lv_iconst (v := nI 1) hx hb d_p6m3_81 (by decide) ?_
                          refine lv_goto (tgt := 86) hx hb d_p6m3_82 (by decide) ?_
                          simp only [e25, e7, e71, e140, e215, e251] at q26
                          simp only [e92, e7, e71, e140, e215, e251] at q93
                          simp only [e164, e7, e71, e140, e215, e251] at q165
                          simp only [e242, e7, e71, e140, e215, e251] at q243
                          simp only [e289, e7, e71, e140, e215, e251] at q290
                          refine W.eq (g2 := F0 m 86 ls [.int (pd_b true)]) rfl ?_
                          exact pd_zret (v := true) X w ⟨by rcases hk5 with e9 | e9 <;> rw [e9] <;> rcases (show (gr_cut cs).1 = 0 ∨ (gr_cut cs).1 = 1 ∨ (gr_cut cs).1 = 2 ∨ (gr_cut cs).1 = 3 ∨ (gr_cut cs).1 = 4 ∨ (gr_cut cs).1 = 5 ∨ (gr_cut cs).1 = 6 by omega) with z | z | z | z | z | z | z <;> first | (exfalso; omega) | simp [z, gr_head, gr_nms, q1, q26, q27, q28, q93, q94, q165, q166, q243, q244, q245, q290], pd_kx.tr (pd_kx.tr (pd_kx.tr (pd_kx.tr (k5) (k69)) (k138)) (k213)) (k249)⟩ (by decide) (by decide) d_p6m3_86
                    · -- not taken: 41
                      exfalso
                      omega
                  · -- not taken: 52
                    refine lv_iconst (v := nI 0) hx hb d_p6m3_52 (by decide) ?_
                    simp only [e25, e7, e71, e140, e215] at q26
                    simp only [e92, e7, e71, e140, e215] at q93
                    simp only [e164, e7, e71, e140, e215] at q165
                    simp only [e242, e7, e71, e140, e215] at q243
                    refine W.eq (g2 := F0 m 53 ls [.int (pd_b false)]) rfl ?_
                    exact pd_zret (v := false) X w ⟨by rcases hk5 with e9 | e9 <;> rw [e9] <;> rcases (show (gr_cut cs).1 = 0 ∨ (gr_cut cs).1 = 1 ∨ (gr_cut cs).1 = 2 ∨ (gr_cut cs).1 = 3 ∨ (gr_cut cs).1 = 4 ∨ (gr_cut cs).1 = 5 ∨ (gr_cut cs).1 = 6 by omega) with z | z | z | z | z | z | z <;> first | (exfalso; omega) | simp [z, gr_head, gr_nms, q1, q26, q27, q28, q93, q94, q165, q166, q243], pd_kx.tr (pd_kx.tr (pd_kx.tr (k5) (k69)) (k138)) (k213)⟩ (by decide) (by decide) d_p6m3_53
              · -- not taken: 52
                refine lv_iconst (v := nI 0) hx hb d_p6m3_52 (by decide) ?_
                simp only [e25, e7, e71, e140] at q26
                simp only [e92, e7, e71, e140] at q93
                simp only [e164, e7, e71, e140] at q165
                refine W.eq (g2 := F0 m 53 ls [.int (pd_b false)]) rfl ?_
                exact pd_zret (v := false) X w ⟨by rcases hk5 with e9 | e9 <;> rw [e9] <;> rcases (show (gr_cut cs).1 = 0 ∨ (gr_cut cs).1 = 1 ∨ (gr_cut cs).1 = 2 ∨ (gr_cut cs).1 = 3 ∨ (gr_cut cs).1 = 4 ∨ (gr_cut cs).1 = 5 ∨ (gr_cut cs).1 = 6 by omega) with z | z | z | z | z | z | z <;> first | (exfalso; omega) | simp [z, gr_head, gr_nms, q1, q26, q27, q28, q93, q94, q165], pd_kx.tr (pd_kx.tr (k5) (k69)) (k138)⟩ (by decide) (by decide) d_p6m3_53
          · -- not taken: 52
            refine lv_iconst (v := nI 0) hx hb d_p6m3_52 (by decide) ?_
            simp only [e25, e7, e71] at q26
            simp only [e92, e7, e71] at q93
            refine W.eq (g2 := F0 m 53 ls [.int (pd_b false)]) rfl ?_
            exact pd_zret (v := false) X w ⟨by rcases hk5 with e9 | e9 <;> rw [e9] <;> rcases (show (gr_cut cs).1 = 0 ∨ (gr_cut cs).1 = 1 ∨ (gr_cut cs).1 = 2 ∨ (gr_cut cs).1 = 3 ∨ (gr_cut cs).1 = 4 ∨ (gr_cut cs).1 = 5 ∨ (gr_cut cs).1 = 6 by omega) with z | z | z | z | z | z | z <;> first | (exfalso; omega) | simp [z, gr_head, gr_nms, q1, q26, q27, q28, q93], pd_kx.tr (k5) (k69)⟩ (by decide) (by decide) d_p6m3_53
      · -- not taken: 29
        refine lv_iconst (v := nI 1) hx hb d_p6m3_29 (by decide) ?_
        simp only [e25, e7] at q26
        refine W.eq (g2 := F0 m 30 ls [.int (pd_b true)]) rfl ?_
        exact pd_zret (v := true) X w ⟨by rcases hk5 with e9 | e9 <;> rw [e9] <;> rcases (show (gr_cut cs).1 = 0 ∨ (gr_cut cs).1 = 1 ∨ (gr_cut cs).1 = 2 ∨ (gr_cut cs).1 = 3 ∨ (gr_cut cs).1 = 4 ∨ (gr_cut cs).1 = 5 ∨ (gr_cut cs).1 = 6 by omega) with z | z | z | z | z | z | z <;> first | (exfalso; omega) | simp [z, gr_head, gr_nms, q1, q26, q27], k5⟩ (by decide) (by decide) d_p6m3_30
    · -- not taken: 19
      refine lv_iconst (v := nI 0) hx hb d_p6m3_19 (by decide) ?_
      simp only [e25, e7] at q26
      refine W.eq (g2 := F0 m 20 ls [.int (pd_b false)]) rfl ?_
      exact pd_zret (v := false) X w ⟨by rcases hk5 with e9 | e9 <;> rw [e9] <;> rcases (show (gr_cut cs).1 = 0 ∨ (gr_cut cs).1 = 1 ∨ (gr_cut cs).1 = 2 ∨ (gr_cut cs).1 = 3 ∨ (gr_cut cs).1 = 4 ∨ (gr_cut cs).1 = 5 ∨ (gr_cut cs).1 = 6 by omega) with z | z | z | z | z | z | z <;> first | (exfalso; omega) | simp [z, gr_head, gr_nms, q1, q26], k5⟩ (by decide) (by decide) d_p6m3_20
