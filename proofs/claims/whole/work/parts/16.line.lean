/-! a LINE cut into WORDS -/
def gr_cutL (cs : List Nat) : Nat → Nat → Nat → (Nat → Nat) → Nat × (Nat → Nat)
  | 0, _, k, g => (k, g)
  | n + 1, i, k, g => if i < cs.length ∧ ¬ cs.getD i 0 = 32 then gr_cutL cs n (i + 1) k g else if k = 6 ∨ i = g k then (0, g) else gr_cutL cs n (i + 1) (k + 1) (fun j => if j = k + 1 then i + 1 else g j)
def gr_cut (cs : List Nat) : Nat × (Nat → Nat) := gr_cutL cs (cs.length + 1) 0 0 (fun _ => 0)
theorem gr_cut_c {cs : List Nat} {n i k : Nat} {g : Nat → Nat} (hi : i < cs.length) (hx : ¬ cs.getD i 0 = 32) (hn : 0 < n) : gr_cutL cs n i k g = gr_cutL cs (n - 1) (i + 1) k g := by
  obtain ⟨n, rfl⟩ : ∃ z, n = z + 1 := ⟨n - 1, by omega⟩
  rw [gr_cutL, if_pos ⟨hi, hx⟩]
  rfl
theorem gr_cut_0 {cs : List Nat} {n i k : Nat} {g : Nat → Nat} (hx : ¬ (i < cs.length ∧ ¬ cs.getD i 0 = 32)) (hn : 0 < n) (hk : k = 6 ∨ i = g k) : gr_cutL cs n i k g = (0, g) := by
  obtain ⟨n, rfl⟩ : ∃ z, n = z + 1 := ⟨n - 1, by omega⟩
  rw [gr_cutL, if_neg hx, if_pos hk]
theorem gr_cut_w {cs : List Nat} {n i k : Nat} {g : Nat → Nat} (hx : ¬ (i < cs.length ∧ ¬ cs.getD i 0 = 32)) (hn : 0 < n) (hk : ¬ (k = 6 ∨ i = g k)) : gr_cutL cs n i k g = gr_cutL cs (n - 1) (i + 1) (k + 1) (fun j => if j = k + 1 then i + 1 else g j) := by
  obtain ⟨n, rfl⟩ : ∃ z, n = z + 1 := ⟨n - 1, by omega⟩
  rw [gr_cutL, if_neg hx, if_neg hk]
  rfl
/-- the ints of an array that are small numbers -/
def tx_nums (f : Nat → Int32) (g : Nat → Nat) (n : Nat) : Prop := ∀ j, j < n → f j = nI (g j) ∧ g j < 1000
theorem tx_nums_up {f : Nat → Int32} {g : Nat → Nat} {n k x : Nat} (h : tx_nums f g n) (hx : x < 1000) : tx_nums (upd f k (nI x)) (fun j => if j = k then x else g j) n := by
  intro j hj
  by_cases z : j = k
  · subst z
    simp only [pk_us, if_true]
    exact ⟨trivial, hx⟩
  · rw [pk_un z]
    simp only [if_neg z]
    exact h j hj
theorem d_p7m2_0 : decode prog_7_method_2_code 0 = .ok (.iconst 0, 1) := by decide +kernel
theorem d_p7m2_1 : decode prog_7_method_2_code 1 = .ok (.istore_n 2, 1) := by decide +kernel
theorem d_p7m2_2 : decode prog_7_method_2_code 2 = .ok (.iconst 0, 1) := by decide +kernel
theorem d_p7m2_3 : decode prog_7_method_2_code 3 = .ok (.istore_n 3, 1) := by decide +kernel
theorem d_p7m2_4 : decode prog_7_method_2_code 4 = .ok (.iload_n 3, 1) := by decide +kernel
theorem d_p7m2_5 : decode prog_7_method_2_code 5 = .ok (.aload_n 0, 1) := by decide +kernel
theorem d_p7m2_6 : decode prog_7_method_2_code 6 = .ok (.invokevirtual 25, 3) := by decide +kernel
theorem d_p7m2_9 : decode prog_7_method_2_code 9 = .ok (.if_icmp .gt 54, 3) := by decide +kernel
theorem d_p7m2_12 : decode prog_7_method_2_code 12 = .ok (.iload_n 3, 1) := by decide +kernel
theorem d_p7m2_13 : decode prog_7_method_2_code 13 = .ok (.aload_n 0, 1) := by decide +kernel
theorem d_p7m2_14 : decode prog_7_method_2_code 14 = .ok (.invokevirtual 25, 3) := by decide +kernel
theorem d_p7m2_17 : decode prog_7_method_2_code 17 = .ok (.if_icmp .ge 16, 3) := by decide +kernel
theorem d_p7m2_20 : decode prog_7_method_2_code 20 = .ok (.aload_n 0, 1) := by decide +kernel
theorem d_p7m2_21 : decode prog_7_method_2_code 21 = .ok (.iload_n 3, 1) := by decide +kernel
theorem d_p7m2_22 : decode prog_7_method_2_code 22 = .ok (.invokevirtual 31, 3) := by decide +kernel
theorem d_p7m2_25 : decode prog_7_method_2_code 25 = .ok (.bipush 32, 2) := by decide +kernel
theorem d_p7m2_27 : decode prog_7_method_2_code 27 = .ok (.if_icmp .eq 6, 3) := by decide +kernel
theorem d_p7m2_30 : decode prog_7_method_2_code 30 = .ok (.goto 27, 3) := by decide +kernel
theorem d_p7m2_33 : decode prog_7_method_2_code 33 = .ok (.iload_n 2, 1) := by decide +kernel
theorem d_p7m2_34 : decode prog_7_method_2_code 34 = .ok (.bipush 6, 2) := by decide +kernel
theorem d_p7m2_36 : decode prog_7_method_2_code 36 = .ok (.if_icmp .eq 10, 3) := by decide +kernel
theorem d_p7m2_39 : decode prog_7_method_2_code 39 = .ok (.iload_n 3, 1) := by decide +kernel
theorem d_p7m2_40 : decode prog_7_method_2_code 40 = .ok (.aload_n 1, 1) := by decide +kernel
theorem d_p7m2_41 : decode prog_7_method_2_code 41 = .ok (.iload_n 2, 1) := by decide +kernel
theorem d_p7m2_42 : decode prog_7_method_2_code 42 = .ok (.iaload, 1) := by decide +kernel
theorem d_p7m2_43 : decode prog_7_method_2_code 43 = .ok (.if_icmp .ne 5, 3) := by decide +kernel
theorem d_p7m2_46 : decode prog_7_method_2_code 46 = .ok (.iconst 0, 1) := by decide +kernel
theorem d_p7m2_47 : decode prog_7_method_2_code 47 = .ok (.ireturn, 1) := by decide +kernel
theorem d_p7m2_48 : decode prog_7_method_2_code 48 = .ok (.iinc 2 1, 3) := by decide +kernel
theorem d_p7m2_51 : decode prog_7_method_2_code 51 = .ok (.aload_n 1, 1) := by decide +kernel
theorem d_p7m2_52 : decode prog_7_method_2_code 52 = .ok (.iload_n 2, 1) := by decide +kernel
theorem d_p7m2_53 : decode prog_7_method_2_code 53 = .ok (.iload_n 3, 1) := by decide +kernel
theorem d_p7m2_54 : decode prog_7_method_2_code 54 = .ok (.iconst 1, 1) := by decide +kernel
theorem d_p7m2_55 : decode prog_7_method_2_code 55 = .ok (.iadd, 1) := by decide +kernel
theorem d_p7m2_56 : decode prog_7_method_2_code 56 = .ok (.iastore, 1) := by decide +kernel
theorem d_p7m2_57 : decode prog_7_method_2_code 57 = .ok (.iinc 3 1, 3) := by decide +kernel
theorem d_p7m2_60 : decode prog_7_method_2_code 60 = .ok (.goto (-56), 3) := by decide +kernel
theorem d_p7m2_63 : decode prog_7_method_2_code 63 = .ok (.iload_n 2, 1) := by decide +kernel
theorem d_p7m2_64 : decode prog_7_method_2_code 64 = .ok (.ireturn, 1) := by decide +kernel
abbrev y_Line_cut : MethodName := ⟨"PolicyDesk$Line", "cut", "(Ljava/lang/String;[I)I"⟩
theorem ok_Line_cut : pd_ok y_Line_cut prog_7_method_2_code 4 (some .int) 2 := ⟨mT_537, mT_22, by decide, by decide +kernel⟩
abbrev rm_Line_cut : Room := { frames := 4, cells := 0, slots := 0, locals := 85 }
set_option maxHeartbeats 4000000 in
set_option maxRecDepth 100000 in
theorem lp_Line_cut_4 (l : Launch) (G : pd_G) (h : pd_H) {a : Nat} {cs : List Nat} {st tg : Nat} (hS : pd_Str h a cs) (hst : h st = some (tg, .inl (.int, 7, .inl (fun _ => 0)))) (hz_st : G.2.1 ≤ st) {p : Program} {e : Env} {s : State} {m : MethodId} {below : List Frame} {meth : Method} {c : Code} (X : pd_B p s m [.ref a, .ref st].toArray meth c G y_Line_cut.cls prog_7_method_2_code 4 (some .int)) (hmn : meth.name = y_Line_cut.name) :
    ∀ (kk9 : Nat) (i : Nat) (k : Nat) (g : Nat → Nat) (fA : Nat → Int32) (h2 : pd_H), (i ≤ cs.length + 1) → (k ≤ 6) → (tx_nums fA g 7) → (h2 st = some (tg, .inl (.int, 7, .inl fA))) → (pd_kq st h h2) → (pd_Str h2 a cs) → (gr_cutL cs (cs.length + 1 - i) i k g = gr_cut cs) → cs.length + 2 - i < kk9 → ∀ (H : Heap) (locs : List Loc), pd_w G s H locs h2 → ∀ ls : Array Slot, lv_has ls 4 [(3, .int (nI i)), (2, .int (nI k)), (0, .ref a), (1, .ref st)] → W p l e rm_Line_cut s m [.ref a, .ref st].toArray below meth c H locs 0 0 (MQ below (pd_Q G pd_vn (fun r h1 => r = (gr_cut cs).1 ∧ pd_kq st h h1 ∧ ∃ fA, h1 st = some (tg, .inl (.int, 7, .inl fA)) ∧ tx_nums fA (gr_cut cs).2 7)) [.ref a, .ref st].toArray s rm_Line_cut.cells rm_Line_cut.slots (fun q => G.2.1 ≤ q)) (F0 m 4 ls []) := by
  have hx := X.1
  have hb := X.2.1
  obtain ⟨v1, f1, hv1, hv2, hvf, hvc, hvl⟩ := id hS
  intro kk9
  induction kk9 with
  | zero => intros; omega
  | succ kk9 ih =>
    intro i k g fA h2 hi hk6 hf hA hk2 hs2 hv hmu H locs w ls hl
    obtain ⟨v3, f3, hw1, hw2, hwf, hwc, hwl⟩ := id hs2
    refine lv_iload_n hx hb d_p7m2_4 rfl (lv_at hl 0 rfl) ?_
    refine lv_aload_n hx hb d_p7m2_5 rfl (lv_at hl 2 rfl) ?_
    refine pd_cV (a := a) (As := []) (rest := [.int (nI i)]) X w hw1 rfl (c_String_length l G h2 (by assumption)) ok_String_length ⟨mT_93, mT_94⟩ mT_538 ⟨by decide, by decide⟩ rfl hl.1 rfl (Nat.le_of_ble_eq_true rfl) d_p7m2_6 ⟨by decide, by decide⟩ (fun r1 h2 H locs hp3 w => ?_)
    refine W.widen (k := 0) (n := 0) (by decide) (by decide) ?_
    obtain ⟨e4, rfl⟩ := hp3
    refine pd_jgt (tgt := 63) hx hb d_p7m2_9 (by decide) (by omega) (by omega) (fun q5 => ?_) (fun q5 => ?_)
    · -- taken: 63
      refine lv_iload_n hx hb d_p7m2_63 rfl (lv_at hl 1 rfl) ?_
      exact pd_nret (v := k) X w ⟨by rw [← hv, show cs.length + 1 - i = 0 by omega]; rfl, hk2, _, hA, by rw [← hv, show cs.length + 1 - i = 0 by omega]; exact hf⟩ (by decide) (by decide) d_p7m2_64
    · -- not taken: 12
      refine lv_iload_n hx hb d_p7m2_12 rfl (lv_at hl 0 rfl) ?_
      refine lv_aload_n hx hb d_p7m2_13 rfl (lv_at hl 2 rfl) ?_
      refine pd_cV (a := a) (As := []) (rest := [.int (nI i)]) X w hw1 rfl (c_String_length l G h2 (by assumption)) ok_String_length ⟨mT_93, mT_94⟩ mT_538 ⟨by decide, by decide⟩ rfl hl.1 rfl (Nat.le_of_ble_eq_true rfl) d_p7m2_14 ⟨by decide, by decide⟩ (fun r6 h7 H locs hp8 w => ?_)
      refine W.widen (k := 0) (n := 0) (by decide) (by decide) ?_
      obtain ⟨e9, rfl⟩ := hp8
      refine pd_jge (tgt := 33) hx hb d_p7m2_17 (by decide) (by omega) (by omega) (fun q10 => ?_) (fun q10 => ?_)
      · -- taken: 33
        refine lv_iload_n hx hb d_p7m2_33 rfl (lv_at hl 1 rfl) ?_
        refine lv_bipush (v := nI 6) hx hb d_p7m2_34 (by decide) ?_
        refine pd_jeq (tgt := 46) hx hb d_p7m2_36 (by decide) (by omega) (by omega) (fun q11 => ?_) (fun q11 => ?_)
        · -- taken: 46
          refine lv_iconst (v := nI 0) hx hb d_p7m2_46 (by decide) ?_
          exact pd_nret (v := 0) X w ⟨by rw [← hv, gr_cut_0 (by omega) (by omega) (by omega)], hk2, _, hA, by rw [← hv, gr_cut_0 (by omega) (by omega) (by omega)]; exact hf⟩ (by decide) (by decide) d_p7m2_47
        · -- not taken: 39
          refine lv_iload_n hx hb d_p7m2_39 rfl (lv_at hl 0 rfl) ?_
          refine lv_aload_n hx hb d_p7m2_40 rfl (lv_at hl 3 rfl) ?_
          refine lv_iload_n hx hb d_p7m2_41 rfl (lv_at hl 1 rfl) ?_
          refine pd_iald X w hA (by omega) (by omega) d_p7m2_42 ?_
          have hgk := hf k (by omega)
          refine pd_top (v' := .int (nI (g k))) (by rw [hgk.1]) ?_
          refine pd_jne (tgt := 48) hx hb d_p7m2_43 (by decide) (by omega) (by omega) (fun q12 => ?_) (fun q12 => ?_)
          · -- taken: 48
            refine pd_iinc (k := 1) (d := 1) (lv' := [(2, .int (nI (k + 1))), (3, .int (nI i)), (0, .ref a), (1, .ref st)]) hx hb d_p7m2_48 (by decide) hl rfl (by decide) rfl (fun ls hl => ?_)
            refine lv_aload_n hx hb d_p7m2_51 rfl (lv_at hl 3 rfl) ?_
            refine lv_iload_n hx hb d_p7m2_52 rfl (lv_at hl 0 rfl) ?_
            refine lv_iload_n hx hb d_p7m2_53 rfl (lv_at hl 1 rfl) ?_
            refine lv_iconst (v := nI 1) hx hb d_p7m2_54 (by decide) ?_
            refine pd_iadd hx hb d_p7m2_55 ?_
            refine pd_iast X w hA hz_st (by omega) (by omega) d_p7m2_56 (fun H locs w => ?_)
            have w : pd_w G s H locs (pd_up h2 st (tg, .inl (.int, 7, .inl (upd fA (k + 1) (nI (i + 1)))))) := w
            obtain ⟨h13, u16⟩ : ∃ z, z = pd_up h2 st (tg, .inl (.int, 7, .inl (upd fA (k + 1) (nI (i + 1))))) := ⟨_, rfl⟩
            rw [← u16] at w
            have k14 : pd_kq st h2 h13 := by rw [u16]; exact pd_up_kq
            have f15 : h13 st = some (tg, .inl (.int, 7, .inl (upd fA (k + 1) (nI (i + 1))))) := by rw [u16]; exact pd_up_s _ _ _
            have f17 := k14 _ _ (pd_ne hw1 hA (by simp)) hw1
            have f18 := k14 _ _ (pd_ne hw2 hA (by simp)) hw2
            have f19 : pd_Str h13 a cs := ⟨_, _, f17, f18, hwf, hwc, hwl⟩
            refine pd_iinc (k := 1) (d := 1) (lv' := [(3, .int (nI (i + 1))), (2, .int (nI (k + 1))), (0, .ref a), (1, .ref st)]) hx hb d_p7m2_57 (by decide) hl rfl (by decide) rfl (fun ls hl => ?_)
            refine lv_goto (tgt := 4) hx hb d_p7m2_60 (by decide) ?_
            exact ih (i + 1) (k + 1) (fun j => if j = k + 1 then i + 1 else g j) (upd fA (k + 1) (nI (i + 1))) h13 (by omega) (by omega) (tx_nums_up hf (by omega)) (f15) (hk2.tr k14) (f19) (by rw [show cs.length + 1 - (i + 1) = cs.length + 1 - i - 1 by omega, ← gr_cut_w (by omega) (by omega) (by omega)]; exact hv) (by omega) _ _ w ls (lv_sub hl [0, 1, 2, 3] rfl)
          · -- not taken: 46
            refine lv_iconst (v := nI 0) hx hb d_p7m2_46 (by decide) ?_
            exact pd_nret (v := 0) X w ⟨by rw [← hv, gr_cut_0 (by omega) (by omega) (by omega)], hk2, _, hA, by rw [← hv, gr_cut_0 (by omega) (by omega) (by omega)]; exact hf⟩ (by decide) (by decide) d_p7m2_47
      · -- not taken: 20
        refine lv_aload_n hx hb d_p7m2_20 rfl (lv_at hl 2 rfl) ?_
        refine lv_iload_n hx hb d_p7m2_21 rfl (lv_at hl 0 rfl) ?_
        refine pd_cV (a := a) (As := [.int (nI i)]) (rest := []) X w hw1 rfl (c_String_charAt l G h2 (by assumption) (by omega)) ok_String_charAt ⟨mT_102, mT_103⟩ mT_539 ⟨by decide, by decide⟩ rfl hl.1 rfl (Nat.le_of_ble_eq_true rfl) d_p7m2_22 ⟨by decide, by decide⟩ (fun r20 h21 H locs hp22 w => ?_)
        refine W.widen (k := 0) (n := 0) (by decide) (by decide) ?_
        obtain ⟨e23, lt24, rfl⟩ := hp22
        refine lv_bipush (v := nI 32) hx hb d_p7m2_25 (by decide) ?_
        refine pd_jeq (tgt := 33) hx hb d_p7m2_27 (by decide) (by omega) (by omega) (fun q25 => ?_) (fun q25 => ?_)
        · -- taken: 33
          refine lv_iload_n hx hb d_p7m2_33 rfl (lv_at hl 1 rfl) ?_
          refine lv_bipush (v := nI 6) hx hb d_p7m2_34 (by decide) ?_
          refine pd_jeq (tgt := 46) hx hb d_p7m2_36 (by decide) (by omega) (by omega) (fun q26 => ?_) (fun q26 => ?_)
          · -- taken: 46
            refine lv_iconst (v := nI 0) hx hb d_p7m2_46 (by decide) ?_
            exact pd_nret (v := 0) X w ⟨by rw [← hv, gr_cut_0 (by omega) (by omega) (by omega)], hk2, _, hA, by rw [← hv, gr_cut_0 (by omega) (by omega) (by omega)]; exact hf⟩ (by decide) (by decide) d_p7m2_47
          · -- not taken: 39
            refine lv_iload_n hx hb d_p7m2_39 rfl (lv_at hl 0 rfl) ?_
            refine lv_aload_n hx hb d_p7m2_40 rfl (lv_at hl 3 rfl) ?_
            refine lv_iload_n hx hb d_p7m2_41 rfl (lv_at hl 1 rfl) ?_
            refine pd_iald X w hA (by omega) (by omega) d_p7m2_42 ?_
            have hgk := hf k (by omega)
            refine pd_top (v' := .int (nI (g k))) (by rw [hgk.1]) ?_
            refine pd_jne (tgt := 48) hx hb d_p7m2_43 (by decide) (by omega) (by omega) (fun q27 => ?_) (fun q27 => ?_)
            · -- taken: 48
              refine pd_iinc (k := 1) (d := 1) (lv' := [(2, .int (nI (k + 1))), (3, .int (nI i)), (0, .ref a), (1, .ref st)]) hx hb d_p7m2_48 (by decide) hl rfl (by decide) rfl (fun ls hl => ?_)
              refine lv_aload_n hx hb d_p7m2_51 rfl (lv_at hl 3 rfl) ?_
              refine lv_iload_n hx hb d_p7m2_52 rfl (lv_at hl 0 rfl) ?_
              refine lv_iload_n hx hb d_p7m2_53 rfl (lv_at hl 1 rfl) ?_
              refine lv_iconst (v := nI 1) hx hb d_p7m2_54 (by decide) ?_
              refine pd_iadd hx hb d_p7m2_55 ?_
              refine pd_iast X w hA hz_st (by omega) (by omega) d_p7m2_56 (fun H locs w => ?_)
              have w : pd_w G s H locs (pd_up h2 st (tg, .inl (.int, 7, .inl (upd fA (k + 1) (nI (i + 1)))))) := w
              obtain ⟨h28, u31⟩ : ∃ z, z = pd_up h2 st (tg, .inl (.int, 7, .inl (upd fA (k + 1) (nI (i + 1))))) := ⟨_, rfl⟩
              rw [← u31] at w
              have k29 : pd_kq st h2 h28 := by rw [u31]; exact pd_up_kq
              have f30 : h28 st = some (tg, .inl (.int, 7, .inl (upd fA (k + 1) (nI (i + 1))))) := by rw [u31]; exact pd_up_s _ _ _
              have f32 := k29 _ _ (pd_ne hw1 hA (by simp)) hw1
              have f33 := k29 _ _ (pd_ne hw2 hA (by simp)) hw2
              have f34 : pd_Str h28 a cs := ⟨_, _, f32, f33, hwf, hwc, hwl⟩
              refine pd_iinc (k := 1) (d := 1) (lv' := [(3, .int (nI (i + 1))), (2, .int (nI (k + 1))), (0, .ref a), (1, .ref st)]) hx hb d_p7m2_57 (by decide) hl rfl (by decide) rfl (fun ls hl => ?_)
              refine lv_goto (tgt := 4) hx hb d_p7m2_60 (by decide) ?_
              exact ih (i + 1) (k + 1) (fun j => if j = k + 1 then i + 1 else g j) (upd fA (k + 1) (nI (i + 1))) h28 (by omega) (by omega) (tx_nums_up hf (by omega)) (f30) (hk2.tr k29) (f34) (by rw [show cs.length + 1 - (i + 1) = cs.length + 1 - i - 1 by omega, ← gr_cut_w (by omega) (by omega) (by omega)]; exact hv) (by omega) _ _ w ls (lv_sub hl [0, 1, 2, 3] rfl)
            · -- not taken: 46
              refine lv_iconst (v := nI 0) hx hb d_p7m2_46 (by decide) ?_
              exact pd_nret (v := 0) X w ⟨by rw [← hv, gr_cut_0 (by omega) (by omega) (by omega)], hk2, _, hA, by rw [← hv, gr_cut_0 (by omega) (by omega) (by omega)]; exact hf⟩ (by decide) (by decide) d_p7m2_47
        · -- not taken: 30
          refine lv_goto (tgt := 57) hx hb d_p7m2_30 (by decide) ?_
          refine pd_iinc (k := 0) (d := 1) (lv' := [(3, .int (nI (i + 1))), (2, .int (nI k)), (0, .ref a), (1, .ref st)]) hx hb d_p7m2_57 (by decide) hl rfl (by decide) rfl (fun ls hl => ?_)
          refine lv_goto (tgt := 4) hx hb d_p7m2_60 (by decide) ?_
          exact ih (i + 1) k g fA h2 (by omega) (by omega) (hf) (hA) (hk2) (hs2) (by rw [show cs.length + 1 - (i + 1) = cs.length + 1 - i - 1 by omega, ← gr_cut_c (by omega) (by omega) (by omega)]; exact hv) (by omega) _ _ w ls (lv_sub hl [0, 1, 2, 3] rfl)
set_option maxHeartbeats 4000000 in
set_option maxRecDepth 100000 in
theorem c_Line_cut (l : Launch) (G : pd_G) (h : pd_H) {a : Nat} {cs : List Nat} {st tg : Nat} (hS : pd_Str h a cs) (hst : h st = some (tg, .inl (.int, 7, .inl (fun _ => 0)))) (hz_st : G.2.1 ≤ st) : pd_M l y_Line_cut prog_7_method_2_code 4 (some .int) rm_Line_cut G h [.ref a, .ref st] pd_vn (fun r h1 => r = (gr_cut cs).1 ∧ pd_kq st h h1 ∧ ∃ fA, h1 st = some (tg, .inl (.int, 7, .inl fA)) ∧ tx_nums fA (gr_cut cs).2 7) := by
  refine pd_M.of (by decide) (Nat.le_of_ble_eq_true rfl) ?_
  intro p e s m below meth c X hmn w ls hl
  have hx := X.1
  have hb := X.2.1
  have hl : lv_has ls 4 [(0, .ref a), (1, .ref st)] := hl
  obtain ⟨v1, f1, hv1, hv2, hvf, hvc, hvl⟩ := id hS
  refine lv_iconst (v := nI 0) hx hb d_p7m2_0 (by decide) ?_
  refine lv_istore_n (lv' := [(2, .int (nI 0)), (0, .ref a), (1, .ref st)]) hx hb d_p7m2_1 rfl hl (by decide) rfl (fun ls hl => ?_)
  refine lv_iconst (v := nI 0) hx hb d_p7m2_2 (by decide) ?_
  refine lv_istore_n (lv' := [(3, .int (nI 0)), (2, .int (nI 0)), (0, .ref a), (1, .ref st)]) hx hb d_p7m2_3 rfl hl (by decide) rfl (fun ls hl => ?_)
  exact lp_Line_cut_4 l G h hS hst hz_st X hmn (cs.length + 2 + 1) 0 0 (fun _ => 0) (fun _ => 0) h (by omega) (by omega) (fun j _ => ⟨rfl, (by show 0 < 1000; decide)⟩) (hst) (pd_kq.rf) (hS) (rfl) (by omega) _ _ w ls (lv_sub hl [0, 1, 2, 3] rfl)
