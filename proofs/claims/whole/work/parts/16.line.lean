/-! a LINE cut into WORDS -/
def gr_cutL (cs : List Nat) : Nat → Nat → Nat → (Nat → Nat) → Nat × (Nat → Nat)
  | 0, _, k, g => (k, g)
  | n + 1, i, k, g => if i < cs.length ∧ ¬ cs.getD i 0 = 32 then gr_cutL cs n (i + 1) k g else if k = 6 ∨ i = g k then (0, g) else gr_cutL cs n (i + 1) (k + 1) (fun j => if j = k + 1 then i + 1 else g j)
def gr_cut (cs : List Nat) : Nat × (Nat → Nat) := gr_cutL cs (cs.length + 1) 0 0 (fun _ => 0)
theorem gr_cut_c {cs : List Nat} {n i k : Nat} {g : Nat → Nat} (hi : i < cs.length) (hx : ¬ cs.getD i 0 = 32) (hn : 0 < n) : gr_cutL cs n i k g = gr_cutL cs (n - 1) (i + 1) k g := by
  obtain ⟨n, rfl⟩ : ∃ z, n = z + 1 := ⟨n - 1, by omega⟩
  rw [gr_cutL, if_pos ⟨hi, hx⟩]
  rfl
theorem gr_cut_0 {cs : List Nat} {n i k : Nat} {g : Nat → Nat} (hx : ¬ (i < cs.length ∧ ¬ cs.getD i 0 = 32)) (hn : 0 < n) (hk : k = 6 ∨ i = g k) : gr_cutL cs n i k g = (0, g) := by
  obtain ⟨n, rfl⟩ : ∃ z, n = z + 1 := ⟨n - 1, by omega⟩
  rw [gr_cutL, if_neg hx, if_pos hk]
theorem gr_cut_w {cs : List Nat} {n i k : Nat} {g : Nat → Nat} (hx : ¬ (i < cs.length ∧ ¬ cs.getD i 0 = 32)) (hn : 0 < n) (hk : ¬ (k = 6 ∨ i = g k)) : gr_cutL cs n i k g = gr_cutL cs (n - 1) (i + 1) (k + 1) (fun j => if j = k + 1 then i + 1 else g j) := by
  obtain ⟨n, rfl⟩ : ∃ z, n = z + 1 := ⟨n - 1, by omega⟩
  rw [gr_cutL, if_neg hx, if_neg hk]
  rfl
/-- the ints of an array that are small numbers -/
def tx_nums (f : Nat → Int32) (g : Nat → Nat) (n : Nat) : Prop := ∀ j, j < n → f j = nI (g j) ∧ g j < 1000
theorem tx_nums_up {f : Nat → Int32} {g : Nat → Nat} {n k x : Nat} (h : tx_nums f g n) (hx : x < 1000) : tx_nums (upd f k (nI x)) (fun j => if j = k then x else g j) n := by
  intro j hj
  by_cases z : j = k
  · subst z
    simp only [pk_us, if_true]
    exact ⟨trivial, hx⟩
  · rw [pk_un z]
    simp only [if_neg z]
    exact h j hj
theorem d_p7m2_0 : decode prog_7_method_2_code 0 = .ok (.iconst 0, 1) := by decide +kernel
theorem d_p7m2_1 : decode prog_7_method_2_code 1 = .ok (.istore_n 2, 1) := by decide +kernel
theorem d_p7m2_2 : decode prog_7_method_2_code 2 = .ok (.iconst 0, 1) := by decide +kernel
theorem d_p7m2_3 : decode prog_7_method_2_code 3 = .ok (.istore_n 3, 1) := by decide +kernel
theorem d_p7m2_4 : decode prog_7_method_2_code 4 = .ok (.iload_n 3, 1) := by decide +kernel
theorem d_p7m2_5 : decode prog_7_method_2_code 5 = .ok (.aload_n 0, 1) := by decide +kernel
theorem d_p7m2_6 : decode prog_7_method_2_code 6 = .ok (.invokevirtual 25, 3) := by decide +kernel
theorem d_p7m2_9 : decode prog_7_method_2_code 9 = .ok (.if_icmp .gt 54, 3) := by decide +kernel
theorem d_p7m2_12 : decode prog_7_method_2_code 12 = .ok (.iload_n 3, 1) := by decide +kernel
theorem d_p7m2_13 : decode prog_7_method_2_code 13 = .ok (.aload_n 0, 1) := by decide +kernel
theorem d_p7m2_14 : decode prog_7_method_2_code 14 = .ok (.invokevirtual 25, 3) := by decide +kernel
theorem d_p7m2_17 : decode prog_7_method_2_code 17 = .ok (.if_icmp .ge 16, 3) := by decide +kernel
theorem d_p7m2_20 : decode prog_7_method_2_code 20 = .ok (.aload_n 0, 1) := by decide +kernel
theorem d_p7m2_21 : decode prog_7_method_2_code 21 = .ok (.iload_n 3, 1) := by decide +kernel
theorem d_p7m2_22 : decode prog_7_method_2_code 22 = .ok (.invokevirtual 31, 3) := by decide +kernel
theorem d_p7m2_25 : decode prog_7_method_2_code 25 = .ok (.bipush 32, 2) := by decide +kernel
theorem d_p7m2_27 : decode prog_7_method_2_code 27 = .ok (.if_icmp .eq 6, 3) := by decide +kernel
theorem d_p7m2_30 : decode prog_7_method_2_code 30 = .ok (.goto 27, 3) := by decide +kernel
theorem d_p7m2_33 : decode prog_7_method_2_code 33 = .ok (.iload_n 2, 1) := by decide +kernel
theorem d_p7m2_34 : decode prog_7_method_2_code 34 = .ok (.bipush 6, 2) := by decide +kernel
theorem d_p7m2_36 : decode prog_7_method_2_code 36 = .ok (.if_icmp .eq 10, 3) := by decide +kernel
theorem d_p7m2_39 : decode prog_7_method_2_code 39 = .ok (.iload_n 3, 1) := by decide +kernel
theorem d_p7m2_40 : decode prog_7_method_2_code 40 = .ok (.aload_n 1, 1) := by decide +kernel
theorem d_p7m2_41 : decode prog_7_method_2_code 41 = .ok (.iload_n 2, 1) := by decide +kernel
theorem d_p7m2_42 : decode prog_7_method_2_code 42 = .ok (.iaload, 1) := by decide +kernel
theorem d_p7m2_43 : decode prog_7_method_2_code 43 = .ok (.if_icmp .ne 5, 3) := by decide +kernel
theorem d_p7m2_46 : decode prog_7_method_2_code 46 = .ok (.iconst 0, 1) := by decide +kernel
theorem d_p7m2_47 : decode prog_7_method_2_code 47 = .ok (.ireturn, 1) := by decide +kernel
theorem d_p7m2_48 : decode prog_7_method_2_code 48 = .ok (.iinc 2 1, 3) := by decide +kernel
theorem d_p7m2_51 : decode prog_7_method_2_code 51 = .ok (.aload_n 1, 1) := by decide +kernel
theorem d_p7m2_52 : decode prog_7_method_2_code 52 = .ok (.iload_n 2, 1) := by decide +kernel
theorem d_p7m2_53 : decode prog_7_method_2_code 53 = .ok (.iload_n 3, 1) := by decide +kernel
theorem d_p7m2_54 : decode prog_7_method_2_code 54 = .ok (.iconst 1, 1) := by decide +kernel
theorem d_p7m2_55 : decode prog_7_method_2_code 55 = .ok (.iadd, 1) := by decide +kernel
theorem d_p7m2_56 : decode prog_7_method_2_code 56 = .ok (.iastore, 1) := by decide +kernel
theorem d_p7m2_57 : decode prog_7_method_2_code 57 = .ok (.iinc 3 1, 3) := by decide +kernel
theorem d_p7m2_60 : decode prog_7_method_2_code 60 = .ok (.goto (-56), 3) := by decide +kernel
theorem d_p7m2_63 : decode prog_7_method_2_code 63 = .ok (.iload_n 2, 1) := by decide +kernel
theorem d_p7m2_64 : decode prog_7_method_2_code 64 = .ok (.ireturn, 1) := by decide +kernel
abbrev y_Line_cut : MethodName := ⟨"PolicyDesk$Line", "cut", "(Ljava/lang/String;[I)I"⟩
theorem ok_Line_cut : pd_ok y_Line_cut prog_7_method_2_code 4 (some .int) 2 := ⟨mT_537, mT_22, by decide, by decide +kernel⟩
abbrev rm_Line_cut : Room := { frames := 4, cells := 0, slots := 0, locals := 85 }
set_option maxHeartbeats 4000000 in
set_option maxRecDepth 100000 in
theorem lp_Line_cut_4 (l : Launch) (G : pd_G) (h : pd_H) {a : Nat} {cs : List Nat} {st tg : Nat} (hS : pd_Str h a cs) (hst : h st = some (tg, .inl (.int, 7, .inl (fun _ => 0)))) (hz_st : G.2.1 ≤ st) {p : Program} {e : Env} {s : State} {m : MethodId} {below : List Frame} {meth : Method} {c : Code} (X : pd_B p s m [.ref a, .ref st].toArray meth c G y_Line_cut.cls prog_7_method_2_code 4 (some .int)) (hmn : meth.name = y_Line_cut.name) :
    ∀ (kk9 : Nat) (i : Nat) (k : Nat) (g : Nat → Nat) (fA : Nat → Int32) (h2 : pd_H), (i ≤ cs.length + 1) → (k ≤ 6) → (tx_nums fA g 7) → (h2 st = some (tg, .inl (.int, 7, .inl fA))) → (pd_kq st h h2) → (pd_Str h2 a cs) → (gr_cutL cs (cs.length + 1 - i) i k g = gr_cut cs) → cs.length + 2 - i < kk9 → ∀ (H : Heap) (locs : List Loc), pd_w G s H locs h2 → ∀ ls : Array Slot, lv_has ls 4 [(3, .int (nI i)), (2, .int (nI k)), (0, .ref a), (1, .ref st)] → W p l e rm_Line_cut s m [.ref a, .ref st].toArray below meth c H locs 0 0 (MQ below (pd_Q G pd_vn (fun r h1 => r = (gr_cut cs).1 ∧ pd_kq st h h1 ∧ ∃ fA, h1 st = some (tg, .inl (.int, 7, .inl fA)) ∧ tx_nums fA (gr_cut cs).2 7)) [.ref a, .ref st].toArray s rm_Line_cut.cells rm_Line_cut.slots (fun q => G.2.1 ≤ q)) (F0 m 4 ls []) := by
  have hx := X.1
  have hb := X.2.1
  obtain ⟨v1, f1, hv1, hv2, hvf, hvc, hvl⟩ := id hS
  intro kk9
  induction kk9 with
  | zero => intros; omega
  | succ kk9 ih =>
    intro i k g fA h2 hi hk6 hf hA hk2 hs2 hv hmu H locs w ls hl
    obtain ⟨v3, f3, hw1, hw2, hwf, hwc, hwl⟩ := id hs2
    refine lv_iload_n hx hb d_p7m2_4 rfl (lv_at hl 0 rfl) ?_
    refine lv_aload_n hx hb d_p7m2_5 rfl (lv_at hl 2 rfl) ?_
    refine pd_cV (a := a) (As := []) (rest := [.int (nI i)]) X w hw1 rfl (c_String_length l G h2 (by assumption)) ok_String_length ⟨mT_93, mT_94⟩ mT_538 ⟨by decide, by decide⟩ rfl hl.1 rfl (Nat.le_of_ble_eq_true rfl) d_p7m2_6 ⟨by decide, by decide⟩ (fun r1 h2 H locs hp3 w => ?_)
    refine W.widen (k := 0) (n := 0) (by decide) (by decide) ?_
    obtain ⟨e4, rfl⟩ := hp3
    refine pd_jgt (tgt := 63) hx hb d_p7m2_9 (by decide) (by omega) (by omega) (fun q5 => ?_) (fun q5 => ?_)
    · -- taken: 63
      refine lv_iload_n hx hb d_p7m2_63 rfl (lv_at hl 1 rfl) ?_
      exact pd_nret (v := k) X w ⟨by rw [← hv, show cs.length + 1 - i = 0 by omega]; rfl, hk2, _, hA, by rw [← hv, show cs.length + 1 - i = 0 by omega]; exact hf⟩ (by decide) (by decide) d_p7m2_64
    · -- not taken: 12
      refine lv_iload_n hx hb d_p7m2_12 rfl (lv_at hl 0 rfl) ?_
      refine lv_aload_n hx hb d_p7m2_13 rfl (lv_at hl 2 rfl) ?_
      refine pd_cV (a := a) (As := []) (rest := [.int (nI i)]) X w hw1 rfl (c_String_length l G h2 (by assumption)) ok_String_length ⟨mT_93, mT_94⟩ mT_538 ⟨by decide, by decide⟩ rfl hl.1 rfl (Nat.le_of_ble_eq_true rfl) d_p7m2_14 ⟨by decide, by decide⟩ (fun r6 h7 H locs hp8 w => ?_)
      refine W.widen (k := 0) (n := 0) (by decide) (by decide) ?_
      obtain ⟨e9, rfl⟩ := hp8
      refine pd_jge (tgt := 33) hx hb d_p7m2_17 (by decide) (by omega) (by omega) (fun q10 => ?_) (fun q10 => ?_)
      · -- taken: 33
        refine lv_iload_n hx hb d_p7m2_33 rfl (lv_at hl 1 rfl) ?_
        refine lv_bipush (v := nI 6) hx hb d_p7m2_34 (by decide) ?_
        refine pd_jeq (tgt := 46) hx hb d_p7m2_36 (by decide) (by omega) (by omega) (fun q11 => ?_) (fun q11 => ?_)
        · -- taken: 46
          refine lv_iconst (v := nI 0) hx hb d_p7m2_46 (by decide) ?_
          exact pd_nret (v := 0) X w ⟨by rw [← hv, gr_cut_0 (by omega) (by omega) (by omega)], hk2, _, hA, by rw [← hv, gr_cut_0 (by omega) (by omega) (by omega)]; exact hf⟩ (by decide) (by decide) d_p7m2_47
        · -- not taken: 39
          refine lv_iload_n hx hb d_p7m2_39 rfl (lv_at hl 0 rfl) ?_
          refine lv_aload_n hx hb d_p7m2_40 rfl (lv_at hl 3 rfl) ?_
          refine lv_iload_n hx hb d_p7m2_41 rfl (lv_at hl 1 rfl) ?_
          refine pd_iald X w hA (by omega) (by omega) d_p7m2_42 ?_
          have hgk := hf k (by omega)
          refine pd_top (v' := .int (nI (g k))) (by rw [hgk.1]) ?_
          refine pd_jne (tgt := 48) hx hb d_p7m2_43 (by decide) (by omega) (by omega) (fun q12 => ?_) (fun q12 => ?_)
          · -- taken: 48
            refine pd_iinc (k := 1) (d := 1) (lv' := [(2, .int (nI (k + 1))), (3, .int (nI i)), (0, .ref a), (1, .ref st)]) hx hb d_p7m2_48 (by decide) hl rfl (by decide) rfl (fun ls hl => ?_)
            refine lv_aload_n hx hb d_p7m2_51 rfl (lv_at hl 3 rfl) ?_
            refine lv_iload_n hx hb d_p7m2_52 rfl (lv_at hl 0 rfl) ?_
            refine lv_iload_n hx hb d_p7m2_53 rfl (lv_at hl 1 rfl) ?_
            refine lv_iconst (v := nI 1) hx hb d_p7m2_54 (by decide) ?_
            refine pd_iadd hx hb d_p7m2_55 ?_
            refine pd_iast X w hA hz_st (by omega) (by omega) d_p7m2_56 (fun H locs w => ?_)
            have w : pd_w G s H locs (pd_up h2 st (tg, .inl (.int, 7, .inl (upd fA (k + 1) (nI (i + 1)))))) := w
            obtain ⟨h13, u16⟩ : ∃ z, z = pd_up h2 st (tg, .inl (.int, 7, .inl (upd fA (k + 1) (nI (i + 1))))) := ⟨_, rfl⟩
            rw [← u16] at w
            have k14 : pd_kq st h2 h13 := by rw [u16]; exact pd_up_kq
            have f15 : h13 st = some (tg, .inl (.int, 7, .inl (upd fA (k + 1) (nI (i + 1))))) := by rw [u16]; exact pd_up_s _ _ _
            have f17 := k14 _ _ (pd_ne hw1 hA (by simp)) hw1
            have f18 := k14 _ _ (pd_ne hw2 hA (by simp)) hw2
            have f19 : pd_Str h13 a cs := ⟨_, _, f17, f18, hwf, hwc, hwl⟩
            refine pd_iinc (k := 1) (d := 1) (lv' := [(3, .int (nI (i + 1))), (2, .int (nI (k + 1))), (0, .ref a), (1, .ref st)]) hx hb d_p7m2_57 (by decide) hl rfl (by decide) rfl (fun ls hl => ?_)
            refine lv_goto (tgt := 4) hx hb d_p7m2_60 (by decide) ?_
            exact ih (i + 1) (k + 1) (fun j => if j = k + 1 then i + 1 else g j) (upd fA (k + 1) (nI (i + 1))) h13 (by omega) (by omega) (tx_nums_up hf (by omega)) (f15) (hk2.tr k14) (f19) (by rw [show cs.length + 1 - (i + 1) = cs.length + 1 - i - 1 by omega, ← gr_cut_w (by omega) (by omega) (by omega)]; exact hv) (by omega) _ _ w ls (lv_sub hl [0, 1, 2, 3] rfl)
          · -- not taken: 46
            refine lv_iconst (v := nI 0) hx hb d_p7m2_46 (by decide) ?_
            exact pd_nret (v := 0) X w ⟨by rw [← hv, gr_cut_0 (by omega) (by omega) (by omega)], hk2, _, hA, by rw [← hv, gr_cut_0 (by omega) (by omega) (by omega)]; exact hf⟩ (by decide) (by decide) d_p7m2_47
      · -- not taken: 20
        refine lv_aload_n hx hb d_p7m2_20 rfl (lv_at hl 2 rfl) ?_
        refine lv_iload_n hx hb d_p7m2_21 rfl (lv_at hl 0 rfl) ?_
        refine pd_cV (a := a) (As := [.int (nI i)]) (rest := []) X w hw1 rfl (c_String_charAt l G h2 (by assumption) (by omega)) ok_String_charAt ⟨mT_102, mT_103⟩ mT_539 ⟨by decide, by decide⟩ rfl hl.1 rfl (Nat.le_of_ble_eq_true rfl) d_p7m2_22 ⟨by decide, by decide⟩ (fun r20 h21 H locs hp22 w => ?_)
        refine W.widen (k := 0) (n := 0) (by decide) (by decide) ?_
        obtain ⟨e23, lt24, rfl⟩ := hp22
        refine lv_bipush (v := nI 32) hx hb d_p7m2_25 (by decide) ?_
        refine pd_jeq (tgt := 33) hx hb d_p7m2_27 (by decide) (by omega) (by omega) (fun q25 => ?_) (fun q25 => ?_)
        · -- taken: 33
          refine lv_iload_n hx hb d_p7m2_33 rfl (lv_at hl 1 rfl) ?_
          refine lv_bipush (v := nI 6) hx hb d_p7m2_34 (by decide) ?_
          refine pd_jeq (tgt := 46) hx hb d_p7m2_36 (by decide) (by omega) (by omega) (fun q26 => ?_) (fun q26 => ?_)
          · -- taken: 46
            refine lv_iconst (v := nI 0) hx hb d_p7m2_46 (by decide) ?_
            exact pd_nret (v := 0) X w ⟨by rw [← hv, gr_cut_0 (by omega) (by omega) (by omega)], hk2, _, hA, by rw [← hv, gr_cut_0 (by omega) (by omega) (by omega)]; exact hf⟩ (by decide) (by decide) d_p7m2_47
          · -- not taken: 39
            refine lv_iload_n hx hb d_p7m2_39 rfl (lv_at hl 0 rfl) ?_
            refine lv_aload_n hx hb d_p7m2_40 rfl (lv_at hl 3 rfl) ?_
            refine lv_iload_n hx hb d_p7m2_41 rfl (lv_at hl 1 rfl) ?_
            refine pd_iald X w hA (by omega) (by omega) d_p7m2_42 ?_
            have hgk := hf k (by omega)
            refine pd_top (v' := .int (nI (g k))) (by rw [hgk.1]) ?_
            refine pd_jne (tgt := 48) hx hb d_p7m2_43 (by decide) (by omega) (by omega) (fun q27 => ?_) (fun q27 => ?_)
            · -- taken: 48
              refine pd_iinc (k := 1) (d := 1) (lv' := [(2, .int (nI (k + 1))), (3, .int (nI i)), (0, .ref a), (1, .ref st)]) hx hb d_p7m2_48 (by decide) hl rfl (by decide) rfl (fun ls hl => ?_)
              refine lv_aload_n hx hb d_p7m2_51 rfl (lv_at hl 3 rfl) ?_
              refine lv_iload_n hx hb d_p7m2_52 rfl (lv_at hl 0 rfl) ?_
              refine lv_iload_n hx hb d_p7m2_53 rfl (lv_at hl 1 rfl) ?_
              refine lv_iconst (v := nI 1) hx hb d_p7m2_54 (by decide) ?_
              refine pd_iadd hx hb d_p7m2_55 ?_
              refine pd_iast X w hA hz_st (by omega) (by omega) d_p7m2_56 (fun H locs w => ?_)
              have w : pd_w G s H locs (pd_up h2 st (tg, .inl (.int, 7, .inl (upd fA (k + 1) (nI (i + 1)))))) := w
              obtain ⟨h28, u31⟩ : ∃ z, z = pd_up h2 st (tg, .inl (.int, 7, .inl (upd fA (k + 1) (nI (i + 1))))) := ⟨_, rfl⟩
              rw [← u31] at w
              have k29 : pd_kq st h2 h28 := by rw [u31]; exact pd_up_kq
              have f30 : h28 st = some (tg, .inl (.int, 7, .inl (upd fA (k + 1) (nI (i + 1))))) := by rw [u31]; exact pd_up_s _ _ _
              have f32 := k29 _ _ (pd_ne hw1 hA (by simp)) hw1
              have f33 := k29 _ _ (pd_ne hw2 hA (by simp)) hw2
              have f34 : pd_Str h28 a cs := ⟨_, _, f32, f33, hwf, hwc, hwl⟩
              refine pd_iinc (k := 1) (d := 1) (lv' := [(3, .int (nI (i + 1))), (2, .int (nI (k + 1))), (0, .ref a), (1, .ref st)]) hx hb d_p7m2_57 (by decide) hl rfl (by decide) rfl (fun ls hl => ?_)
              refine lv_goto (tgt := 4) hx hb d_p7m2_60 (by decide) ?_
              exact ih (i + 1) (k + 1) (fun j => if j = k + 1 then i + 1 else g j) (upd fA (k + 1) (nI (i + 1))) h28 (by omega) (by omega) (tx_nums_up hf (by omega)) (f30) (hk2.tr k29) (f34) (by rw [show cs.length + 1 - (i + 1) = cs.length + 1 - i - 1 by omega, ← gr_cut_w (by omega) (by omega) (by omega)]; exact hv) (by omega) _ _ w ls (lv_sub hl [0, 1, 2, 3] rfl)
            · -- not taken: 46
              refine lv_iconst (v := nI 0) hx hb d_p7m2_46 (by decide) ?_
              exact pd_nret (v := 0) X w ⟨by rw [← hv, gr_cut_0 (by omega) (by omega) (by omega)], hk2, _, hA, by rw [← hv, gr_cut_0 (by omega) (by omega) (by omega)]; exact hf⟩ (by decide) (by decide) d_p7m2_47
        · -- not taken: 30
          refine lv_goto (tgt := 57) hx hb d_p7m2_30 (by decide) ?_
          refine pd_iinc (k := 0) (d := 1) (lv' := [(3, .int (nI (i + 1))), (2, .int (nI k)), (0, .ref a), (1, .ref st)]) hx hb d_p7m2_57 (by decide) hl rfl (by decide) rfl (fun ls hl => ?_)
          refine lv_goto (tgt := 4) hx hb d_p7m2_60 (by decide) ?_
          exact ih (i + 1) k g fA h2 (by omega) (by omega) (hf) (hA) (hk2) (hs2) (by rw [show cs.length + 1 - (i + 1) = cs.length + 1 - i - 1 by omega, ← gr_cut_c (by omega) (by omega) (by omega)]; exact hv) (by omega) _ _ w ls (lv_sub hl [0, 1, 2, 3] rfl)
set_option maxHeartbeats 4000000 in
set_option maxRecDepth 100000 in
theorem c_Line_cut (l : Launch) (G : pd_G) (h : pd_H) {a : Nat} {cs : List Nat} {st tg : Nat} (hS : pd_Str h a cs) (hst : h st = some (tg, .inl (.int, 7, .inl (fun _ => 0)))) (hz_st : G.2.1 ≤ st) : pd_M l y_Line_cut prog_7_method_2_code 4 (some .int) rm_Line_cut G h [.ref a, .ref st] pd_vn (fun r h1 => r = (gr_cut cs).1 ∧ pd_kq st h h1 ∧ ∃ fA, h1 st = some (tg, .inl (.int, 7, .inl fA)) ∧ tx_nums fA (gr_cut cs).2 7) := by
  refine pd_M.of (by decide) (Nat.le_of_ble_eq_true rfl) ?_
  intro p e s m below meth c X hmn w ls hl
  have hx := X.1
  have hb := X.2.1
  have hl : lv_has ls 4 [(0, .ref a), (1, .ref st)] := hl
  obtain ⟨v1, f1, hv1, hv2, hvf, hvc, hvl⟩ := id hS
  refine lv_iconst (v := nI 0) hx hb d_p7m2_0 (by decide) ?_
  refine lv_istore_n (lv' := [(2, .int (nI 0)), (0, .ref a), (1, .ref st)]) hx hb d_p7m2_1 rfl hl (by decide) rfl (fun ls hl => ?_)
  refine lv_iconst (v := nI 0) hx hb d_p7m2_2 (by decide) ?_
  refine lv_istore_n (lv' := [(3, .int (nI 0)), (2, .int (nI 0)), (0, .ref a), (1, .ref st)]) hx hb d_p7m2_3 rfl hl (by decide) rfl (fun ls hl => ?_)
  exact lp_Line_cut_4 l G h hS hst hz_st X hmn (cs.length + 2 + 1) 0 0 (fun _ => 0) (fun _ => 0) h (by omega) (by omega) (fun j _ => ⟨rfl, (by show 0 < 1000; decide)⟩) (hst) (pd_kq.rf) (hS) (rfl) (by omega) _ _ w ls (lv_sub hl [0, 1, 2, 3] rfl)
theorem d_p7m1_0 : decode prog_7_method_1_code 0 = .ok (.aload_n 0, 1) := by decide +kernel
theorem d_p7m1_1 : decode prog_7_method_1_code 1 = .ok (.invokespecial 1, 3) := by decide +kernel
theorem d_p7m1_4 : decode prog_7_method_1_code 4 = .ok (.aload_n 0, 1) := by decide +kernel
theorem d_p7m1_5 : decode prog_7_method_1_code 5 = .ok (.bipush 7, 2) := by decide +kernel
theorem d_p7m1_7 : decode prog_7_method_1_code 7 = .ok (.newarray .int, 2) := by decide +kernel
theorem d_p7m1_9 : decode prog_7_method_1_code 9 = .ok (.putfield 9, 3) := by decide +kernel
theorem d_p7m1_12 : decode prog_7_method_1_code 12 = .ok (.aload_n 0, 1) := by decide +kernel
theorem d_p7m1_13 : decode prog_7_method_1_code 13 = .ok (.aload_n 1, 1) := by decide +kernel
theorem d_p7m1_14 : decode prog_7_method_1_code 14 = .ok (.putfield 13, 3) := by decide +kernel
theorem d_p7m1_17 : decode prog_7_method_1_code 17 = .ok (.aload_n 0, 1) := by decide +kernel
theorem d_p7m1_18 : decode prog_7_method_1_code 18 = .ok (.aload_n 1, 1) := by decide +kernel
theorem d_p7m1_19 : decode prog_7_method_1_code 19 = .ok (.aload_n 0, 1) := by decide +kernel
theorem d_p7m1_20 : decode prog_7_method_1_code 20 = .ok (.getfield 9, 3) := by decide +kernel
theorem d_p7m1_23 : decode prog_7_method_1_code 23 = .ok (.invokestatic 17, 3) := by decide +kernel
theorem d_p7m1_26 : decode prog_7_method_1_code 26 = .ok (.putfield 21, 3) := by decide +kernel
theorem d_p7m1_29 : decode prog_7_method_1_code 29 = .ok (.return_, 1) := by decide +kernel
abbrev y_Line_init : MethodName := ⟨"PolicyDesk$Line", "<init>", "(Ljava/lang/String;)V"⟩
theorem ok_Line_init : pd_ok y_Line_init prog_7_method_1_code 2 none 1 := ⟨mT_533, mT_22, by decide, by decide +kernel⟩
abbrev rm_Line_init : Room := { frames := 5, cells := 1, slots := 7, locals := 108 }
set_option maxHeartbeats 4000000 in
set_option maxRecDepth 100000 in
theorem c_Line_init (l : Launch) (G : pd_G) (h : pd_H) {a : Nat} {cs : List Nat} {x tg : Nat} (hS : pd_Str h a cs) (hx0 : h x = some (tg, .inr (4, [.null, .int (nI 0), .null]))) (hz_x : G.2.1 ≤ x) : pd_Mv l y_Line_init prog_7_method_1_code 2 rm_Line_init G h [.ref x, .ref a] (fun h1 => pd_kq x h h1 ∧ ∃ (st : Nat) (fA : Nat → Int32), h1 x = some (tg, .inr (4, [.ref a, .int (nI (gr_cut cs).1), .ref st])) ∧ h1 st = some (0, .inl (.int, 7, .inl fA)) ∧ tx_nums fA (gr_cut cs).2 7) := by
  refine pd_Mv.of (by decide) (Nat.le_of_ble_eq_true rfl) ?_
  intro p e s m below meth c X hmn w ls hl
  have hx := X.1
  have hb := X.2.1
  have hl : lv_has ls 2 [(0, .ref x), (1, .ref a)] := hl
  obtain ⟨v1, f1, hv1, hv2, hvf, hvc, hvl⟩ := id hS
  refine lv_aload_n hx hb d_p7m1_0 rfl (lv_at hl 0 rfl) ?_
  refine W.objInit hx hb X.2.2.2.2.1 (X.2.2.2.2.2.1 _ mT_534) (X.2.2.2.2.2.1 _ mT_38) (X.2.2.2.2.2.1 _ mT_39) rfl (by rw [X.2.2.2.1]; exact hl.1) rfl d_p7m1_1 (by decide) (Nat.le_of_ble_eq_true rfl) ?_
  refine W.eq (g2 := F0 m 4 ls []) rfl ?_
  refine lv_aload_n hx hb d_p7m1_4 rfl (lv_at hl 0 rfl) ?_
  refine lv_bipush (v := nI 7) hx hb d_p7m1_5 (by decide) ?_
  refine pd_newa (ty := .int) (x := (7, .inl (fun _ => 0))) 0 X w rfl mT_366 rfl rfl (by omega) (by decide) (fun _ h9 => h9) (by decide) (Nat.le_trans (Nat.add_le_add_left (by omega : 7 ≤ 7) _) (by decide)) d_p7m1_7 (fun q1 H hq2 hz3 w => ?_)
  refine W.widen (k := 1) (n := 7) (by decide) (by omega) ?_
  obtain ⟨h4, u7⟩ : ∃ z, z = pd_up h q1 (0, .inl (.int, 7, .inl (fun _ => 0))) := ⟨_, rfl⟩
  rw [← u7] at w
  have k5 : pd_kx [] h h4 := by rw [u7]; exact pd_new_kx hq2
  have f6 : h4 q1 = some (0, .inl (.int, 7, .inl (fun _ => 0))) := by rw [u7]; exact pd_up_s _ _ _
  have f8 := k5 _ _ hv1 List.not_mem_nil
  have f9 := k5 _ _ hx0 List.not_mem_nil
  have f10 := k5 _ _ hv2 List.not_mem_nil
  have f11 := hS.kx k5 List.not_mem_nil
  refine pd_putF (ty := (.array .int)) X w f9 hz_x rfl 2 (by decide) mT_545 rfl rfl hmn rfl (by decide +kernel) rfl rfl (Nat.le_of_ble_eq_true rfl) d_p7m1_9 (fun H locs w => ?_)
  have w : pd_w G s H locs (pd_up h4 x (tg, .inr (4, [.null, .int (nI 0), .ref q1]))) := w
  obtain ⟨h12, u15⟩ : ∃ z, z = pd_up h4 x (tg, .inr (4, [.null, .int (nI 0), .ref q1])) := ⟨_, rfl⟩
  rw [← u15] at w
  have k13 : pd_kq x h4 h12 := by rw [u15]; exact pd_up_kq
  have f14 : h12 x = some (tg, .inr (4, [.null, .int (nI 0), .ref q1])) := by rw [u15]; exact pd_up_s _ _ _
  have f16 := k13 _ _ (pd_ne f8 f9 (by simp)) f8
  have f17 := k13 _ _ (pd_ne f10 f9 (by simp)) f10
  have f18 := k13 _ _ (pd_ne f6 f9 (by simp)) f6
  have f19 : pd_Str h12 a cs := ⟨_, _, f16, f17, hvf, hvc, hvl⟩
  refine lv_aload_n hx hb d_p7m1_12 rfl (lv_at hl 0 rfl) ?_
  refine lv_aload_n hx hb d_p7m1_13 rfl (lv_at hl 1 rfl) ?_
  refine pd_putF (ty := (.object "java/lang/String")) X w f14 hz_x rfl 0 (by decide) mT_540 rfl rfl hmn rfl (by decide +kernel) rfl rfl (Nat.le_of_ble_eq_true rfl) d_p7m1_14 (fun H locs w => ?_)
  have w : pd_w G s H locs (pd_up h12 x (tg, .inr (4, [.ref a, .int (nI 0), .ref q1]))) := w
  obtain ⟨h20, u23⟩ : ∃ z, z = pd_up h12 x (tg, .inr (4, [.ref a, .int (nI 0), .ref q1])) := ⟨_, rfl⟩
  rw [← u23] at w
  have k21 : pd_kq x h12 h20 := by rw [u23]; exact pd_up_kq
  have f22 : h20 x = some (tg, .inr (4, [.ref a, .int (nI 0), .ref q1])) := by rw [u23]; exact pd_up_s _ _ _
  have f24 := k21 _ _ (pd_ne f16 f14 (by simp)) f16
  have f25 := k21 _ _ (pd_ne f17 f14 (by simp)) f17
  have f26 := k21 _ _ (pd_ne f18 f14 (by simp)) f18
  have f27 : pd_Str h20 a cs := ⟨_, _, f24, f25, hvf, hvc, hvl⟩
  refine lv_aload_n hx hb d_p7m1_17 rfl (lv_at hl 0 rfl) ?_
  refine lv_aload_n hx hb d_p7m1_18 rfl (lv_at hl 1 rfl) ?_
  refine lv_aload_n hx hb d_p7m1_19 rfl (lv_at hl 0 rfl) ?_
  refine pd_get X w f22 rfl 2 (by decide) mT_545 rfl rfl d_p7m1_20 ?_
  refine pd_cS (As := [.ref a, .ref q1]) (rest := [.ref x]) X w (c_Line_cut l G h20 (by assumption) (by assumption) (by assumption)) ok_Line_cut mT_536 mT_535 ⟨by decide, by decide⟩ rfl hl.1 rfl (Nat.le_of_ble_eq_true rfl) d_p7m1_23 ⟨by decide, by decide⟩ (fun r28 h29 H locs hp30 w => ?_)
  refine W.widen (k := 1) (n := 7) (by decide) (by decide) ?_
  obtain ⟨e31, k32, fA33, f34, nu35⟩ := hp30
  have f36 := k32 _ _ (pd_nn hv1 hq2) f24
  have f37 := k32 _ _ (pd_nn hx0 hq2) f22
  have f38 := k32 _ _ (pd_nn hv2 hq2) f25
  have f39 : pd_Str h29 a cs := ⟨_, _, f36, f38, hvf, hvc, hvl⟩
  refine pd_putF (ty := .int) X w f37 hz_x rfl 1 (by decide) mT_542 rfl rfl hmn rfl (by decide +kernel) rfl rfl (Nat.le_of_ble_eq_true rfl) d_p7m1_26 (fun H locs w => ?_)
  have w : pd_w G s H locs (pd_up h29 x (tg, .inr (4, [.ref a, .int (nI r28), .ref q1]))) := w
  obtain ⟨h40, u43⟩ : ∃ z, z = pd_up h29 x (tg, .inr (4, [.ref a, .int (nI r28), .ref q1])) := ⟨_, rfl⟩
  rw [← u43] at w
  have k41 : pd_kq x h29 h40 := by rw [u43]; exact pd_up_kq
  have f42 : h40 x = some (tg, .inr (4, [.ref a, .int (nI r28), .ref q1])) := by rw [u43]; exact pd_up_s _ _ _
  have f44 := k41 _ _ (pd_ne f36 f37 (by simp)) f36
  have f45 := k41 _ _ (pd_ne f38 f37 (by simp)) f38
  have f46 := k41 _ _ (pd_ne f34 f37 (by simp)) f34
  have f47 : pd_Str h40 a cs := ⟨_, _, f44, f45, hvf, hvc, hvl⟩
  have kt48 : pd_kq x h h40 := by
    intro ya c9 n9 ys0
    have ys1 := k5 ya c9 ys0 List.not_mem_nil
    have ys2 := k13 ya c9 n9 ys1
    have ys3 := k21 ya c9 n9 ys2
    have ys4 := k32 ya c9 (pd_nn ys0 hq2) ys3
    have ys5 := k41 ya c9 n9 ys4
    exact ys5
  exact pd_vret X w ⟨kt48, _, _, (by rw [← e31]; exact f42), f46, nu35⟩ (by decide) (by decide) d_p7m1_29
