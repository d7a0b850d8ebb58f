/-! the two grammars are alike: MARKS, COSTS, verbs; the words -/
theorem tx_sub_c {cs : List Nat} {x to : Nat} (hx : x < to) (hto : to ≤ cs.length) : tx_sub cs x to = cs.getD x 0 :: tx_sub cs (x + 1) to := by
  unfold tx_sub
  rw [tx_drop (by omega), show to - x = (to - (x + 1)) + 1 by omega, List.take_succ_cons]
def gm_mkl : List Nat → Nat → Option Nat
  | [], m => some m
  | c :: t, m => if gm_bit c = 0 ∨ gr_mkb m (gm_bit c) = true then none else gm_mkl t (m + gm_bit c)
theorem gm_mk_l {cs : List Nat} {to : Nat} (hto : to ≤ cs.length) : ∀ (n x m : Nat), n = to - x → x ≤ to → gm_mk cs to n x m = gm_mkl (tx_sub cs x to) m
  | 0, x, m, h, hx => by
    rw [tx_sub_0 (by omega)]
    rfl
  | n + 1, x, m, h, hx => by
    rw [gm_mk, if_pos (by omega), tx_sub_c (by omega) hto, gm_mkl, gm_mk_l hto n (x + 1) _ (by omega) (by omega)]
theorem gm_bit_0 {c : Nat} (h1 : ¬ c = 115) (h2 : ¬ c = 110) : gm_bit c = 0 := by
  unfold gm_bit
  rw [if_neg h1, if_neg h2]
theorem gm_mkl_0 {c m : Nat} {t : List Nat} (h : gm_bit c = 0) : gm_mkl (c :: t) m = none := by
  rw [gm_mkl, if_pos (Or.inl h)]
theorem gm_mkl_eq : ∀ (w : List Nat), ¬ w = [] → gm_mkl w 0 = if gr_marks w = true then some (gr_mk w) else none
  | [], h => absurd rfl h
  | [c], _ => by
    by_cases h1 : c = 115
    · subst h1
      decide
    · by_cases h2 : c = 110
      · subst h2
        decide
      · rw [gm_mkl_0 (gm_bit_0 h1 h2), if_neg]
        intro z
        have := of_decide_eq_true z
        simp [h1, h2] at this
  | [c, d], _ => by
    by_cases h1 : c = 115
    · subst h1
      by_cases h3 : d = 115
      · subst h3
        decide
      · by_cases h4 : d = 110
        · subst h4
          decide
        · rw [gm_mkl, if_neg (by decide), gm_mkl_0 (gm_bit_0 h3 h4), if_neg]
          intro z
          have := of_decide_eq_true z
          simp [h3, h4] at this
    · by_cases h2 : c = 110
      · subst h2
        by_cases h3 : d = 115
        · subst h3
          decide
        · by_cases h4 : d = 110
          · subst h4
            decide
          · rw [gm_mkl, if_neg (by decide), gm_mkl_0 (gm_bit_0 h3 h4), if_neg]
            intro z
            have := of_decide_eq_true z
            simp [h3, h4] at this
      · rw [gm_mkl_0 (gm_bit_0 h1 h2), if_neg]
        intro z
        have := of_decide_eq_true z
        simp [h1, h2] at this
  | c :: d :: e :: t, _ => by
    have hm : ¬ gr_marks (c :: d :: e :: t) = true := fun z => by
      have := of_decide_eq_true z
      simp at this
    rw [if_neg hm]
    have h3 : ∀ (x : Nat) (s : List Nat), gm_mkl (x :: s) 3 = none := fun x s => by
      by_cases h1 : x = 115
      · subst h1
        rw [gm_mkl, if_pos (by decide)]
      · by_cases h2 : x = 110
        · subst h2
          rw [gm_mkl, if_pos (by decide)]
        · exact gm_mkl_0 (gm_bit_0 h1 h2)
    by_cases h1 : c = 115
    · subst h1
      rw [gm_mkl, if_neg (by decide)]
      by_cases g1 : d = 115
      · subst g1
        rw [gm_mkl, if_pos (by decide)]
      · by_cases g2 : d = 110
        · subst g2
          rw [gm_mkl, if_neg (by decide)]
          exact h3 e t
        · exact gm_mkl_0 (gm_bit_0 g1 g2)
    · by_cases h2 : c = 110
      · subst h2
        rw [gm_mkl, if_neg (by decide)]
        by_cases g1 : d = 115
        · subst g1
          rw [gm_mkl, if_neg (by decide)]
          exact h3 e t
        · by_cases g2 : d = 110
          · subst g2
            rw [gm_mkl, if_pos (by decide)]
          · exact gm_mkl_0 (gm_bit_0 g1 g2)
      · exact gm_mkl_0 (gm_bit_0 h1 h2)
theorem gm_mk_eq {cs : List Nat} {x to : Nat} (hx : x < to) (hto : to ≤ cs.length) : gm_mk cs to (to - x) x 0 = if gr_marks (tx_sub cs x to) = true then some (gr_mk (tx_sub cs x to)) else none := by
  rw [gm_mk_l hto _ _ _ rfl (by omega), gm_mkl_eq]
  rw [tx_sub_c hx hto]
  exact List.cons_ne_nil _ _
theorem gm_nm_l {cs : List Nat} {to n9 : Nat} (hto : to ≤ cs.length) (h3 : n9 ≤ 3) : ∀ (n x v : Nat), n = to - x → x ≤ to → gm_nm cs to n9 n x v = if (tx_sub cs x to).all gr_dg = true then some (gr_val (tx_sub cs x to) v) else none
  | 0, x, v, h, hx => by
    rw [tx_sub_0 (by omega)]
    rfl
  | n + 1, x, v, h, hx => by
    rw [gm_nm, if_pos (by omega), tx_sub_c (by omega) hto, List.all_cons, gr_val]
    by_cases hd : 48 ≤ cs.getD x 0 ∧ cs.getD x 0 ≤ 57
    · rw [if_neg (by omega), gm_nm_l hto h3 n (x + 1) _ (by omega) (by omega), show gr_dg (cs.getD x 0) = true from decide_eq_true hd, Bool.true_and, Nat.mul_comm]
    · rw [if_pos (Or.inl hd), show gr_dg (cs.getD x 0) = false from decide_eq_false hd, Bool.false_and]
      rfl
theorem gm_num_eq {cs : List Nat} {x to : Nat} (hx : x < to) (hto : to ≤ cs.length) : gm_num cs x to = if gr_cost (tx_sub cs x to) = true then some (gr_num (tx_sub cs x to)) else none := by
  have hl : (tx_sub cs x to).length = to - x := tx_sub_len hto
  have hg : (tx_sub cs x to).getD 0 0 = cs.getD x 0 := tx_sub_get (by omega)
  unfold gm_num
  by_cases h3 : to - x ≤ 3
  · rw [gm_nm_l hto h3 _ _ _ rfl (by omega)]
    by_cases ha : (tx_sub cs x to).all gr_dg = true
    · rw [if_pos ha]
      show (if 1 < to - x ∧ cs.getD x 0 = 48 then none else some _) = _
      by_cases hz : 1 < to - x ∧ cs.getD x 0 = 48
      · rw [if_pos hz, if_neg]
        intro z
        exact (of_decide_eq_true (Bool.and_eq_true_iff.mp z).1).2.2 ⟨by omega, by omega⟩
      · rw [if_neg hz, if_pos]
        · rfl
        · unfold gr_cost
          rw [ha, decide_eq_true ⟨by omega, by omega, fun y => hz ⟨by omega, by omega⟩⟩]
          rfl
    · rw [if_neg ha, if_neg]
      intro z
      exact ha (Bool.and_eq_true_iff.mp z).2
  · rw [show to - x = (to - x - 1) + 1 by omega, gm_nm, if_pos hx, if_pos (Or.inr (by omega)), if_neg]
    intro z
    have := (of_decide_eq_true (Bool.and_eq_true_iff.mp z).1).2.1
    omega
theorem gm_is_eq {cs : List Nat} {x to nn : Nat} {wd : Int64} (hto : to ≤ cs.length) : gm_is cs x to wd nn = decide (tx_sub cs x to = (List.range nn).map (gm_oc wd)) := by
  have hm : ∀ k, k < nn → ((List.range nn).map (gm_oc wd)).getD k 0 = gm_oc wd k := fun k hk => by
    rw [List.getD_eq_getElem?_getD, List.getElem?_map, List.getElem?_range hk]
    rfl
  by_cases h : to - x = nn ∧ ∀ k, k < nn → cs.getD (x + k) 0 = gm_oc wd k
  · rw [gm_is_y h.1 h.2, decide_eq_true]
    apply Eq.symm
    refine tx_eq_at hto (by rw [List.length_map, List.length_range, h.1]) (fun t ht => ?_)
    rw [hm t (by omega), h.2 t (by omega)]
  · rw [decide_eq_false]
    · by_cases h0 : to - x = nn
      · rcases Decidable.em (∃ k, k < nn ∧ ¬ cs.getD (x + k) 0 = gm_oc wd k) with ⟨k, h1, h2⟩ | y
        · exact gm_is_k h1 h2
        · exact absurd ⟨h0, fun k hk => Decidable.not_not.mp (fun z => y ⟨k, hk, z⟩)⟩ h
      · exact gm_is_n h0
    · intro z
      have hl := congrArg List.length z
      rw [tx_sub_len hto, List.length_map, List.length_range] at hl
      refine h ⟨hl, fun k hk => ?_⟩
      rw [← hm k hk, ← z, tx_sub_get (by omega)]
theorem gm_vb_0 : (List.range 5).map (gm_oc 495857003619) = pd_lit (pd_vw 0) := by decide +kernel
theorem gm_vb_2 : (List.range 5).map (gm_oc 431315315046) = pd_lit (pd_vw 2) := by decide +kernel
theorem gm_vb_3 : (List.range 6).map (gm_oc 110429656606061) = pd_lit (pd_vw 3) := by decide +kernel
theorem gm_vb_4 : (List.range 5).map (gm_oc 512970484833) = pd_lit (pd_vw 4) := by decide +kernel
theorem gm_vb_5 : (List.range 4).map (gm_oc 2037278052) = pd_lit (pd_vw 5) := by decide +kernel
theorem gm_vb_6 : (List.range 4).map (gm_oc 1953722211) = pd_lit (pd_vw 6) := by decide +kernel
theorem gm_vb_7 : (List.range 4).map (gm_oc 1835624563) = pd_lit (pd_vw 7) := by decide +kernel
theorem gm_vb_8 : (List.range 3).map (gm_oc 7824750) = pd_lit (pd_vw 8) := by decide +kernel
theorem gm_vb_9 : (List.range 4).map (gm_oc 1953718627) = pd_lit (pd_vw 9) := by decide +kernel
theorem gm_vb_10 : (List.range 5).map (gm_oc 448345170275) = pd_lit (pd_vw 10) := by decide +kernel
theorem gm_vb_11 : (List.range 3).map (gm_oc 7628135) = pd_lit (pd_vw 11) := by decide +kernel
theorem gm_vb_12 : (List.range 4).map (gm_oc 1819042147) = pd_lit (pd_vw 12) := by decide +kernel
theorem gm_vb_1 {cs : List Nat} (h9 : 9 ≤ cs.length) : (decide (cs.getD 8 0 = 101) && gm_is cs 0 8 7161117524010233449 8) = decide (tx_sub cs 0 9 = pd_lit (pd_vw 1)) := by
  have hv : pd_lit (pd_vw 1) = (List.range 8).map (gm_oc 7161117524010233449) ++ [101] := by decide +kernel
  rw [hv, tx_sub_s (k := 8) (by omega) (by omega), gm_is_eq (by omega)]
  by_cases h1 : tx_sub cs 0 8 = (List.range 8).map (gm_oc 7161117524010233449)
  · by_cases h2 : cs.getD 8 0 = 101
    · rw [decide_eq_true h1, decide_eq_true h2, h1, h2]
      exact (decide_eq_true rfl).symm
    · rw [decide_eq_false h2, decide_eq_false (fun z => h2 (List.cons.inj (List.append_inj_right z (by rw [h1]))).1)]
      rfl
  · rw [decide_eq_false h1, Bool.and_false, decide_eq_false (fun z => h1 (List.append_inj_left z (by rw [tx_sub_len (by omega), List.length_map, List.length_range])))]
theorem gm_sp_ge {cs : List Nat} : ∀ (n k w x : Nat) (a b : Nat → Nat), (gm_sp cs n k w x a b).1 = 0 ∨ w ≤ (gm_sp cs n k w x a b).1
  | 0, k, w, x, a, b => Or.inr (Nat.le_refl w)
  | n + 1, k, w, x, a, b => by
    rw [gm_sp]
    split
    · exact gm_sp_ge n _ _ _ _ _
    · split
      · exact Or.inl rfl
      · rcases gm_sp_ge n (k + 1) (w + 1) (k + 1) (pd_fu a w x) (pd_fu b w k) with h | h
        · exact Or.inl h
        · exact Or.inr (by omega)
theorem gm_sp_eq {cs : List Nat} : ∀ (n k w x : Nat) (a b g : Nat → Nat), w ≤ 6 → x = g w → (∀ j, j < w → a j = g j ∧ b j = g (j + 1) - 1) → ((gm_sp cs n k w x a b).1 ≤ 6 → (gr_cutL cs n k w g).1 = (gm_sp cs n k w x a b).1 ∧ ∀ j, j < (gm_sp cs n k w x a b).1 → (gm_sp cs n k w x a b).2.1 j = (gr_cutL cs n k w g).2 j ∧ (gm_sp cs n k w x a b).2.2 j = (gr_cutL cs n k w g).2 (j + 1) - 1) ∧ (¬ (gm_sp cs n k w x a b).1 ≤ 6 → (gr_cutL cs n k w g).1 = 0)
  | 0, k, w, x, a, b, g, h6, hx, hj => ⟨fun _ => ⟨rfl, hj⟩, fun h => absurd h6 h⟩
  | n + 1, k, w, x, a, b, g, h6, hx, hj => by
    rw [gm_sp, gr_cutL]
    by_cases hc : k < cs.length ∧ ¬ cs.getD k 0 = 32
    · rw [if_pos hc, if_pos hc]
      exact gm_sp_eq n (k + 1) w x a b g h6 hx hj
    · rw [if_neg hc, if_neg hc]
      by_cases hk : k = x
      · rw [if_pos hk, if_pos (Or.inr (hk.trans hx))]
        exact ⟨fun _ => ⟨rfl, fun j hj => absurd hj (Nat.not_lt_zero j)⟩, fun _ => rfl⟩
      · rw [if_neg hk]
        by_cases h66 : w = 6
        · rw [if_pos (Or.inl h66)]
          have hge := gm_sp_ge (cs := cs) n (k + 1) (w + 1) (k + 1) (pd_fu a w x) (pd_fu b w k)
          refine ⟨fun h => ?_, fun _ => rfl⟩
          have h0 : (gm_sp cs n (k + 1) (w + 1) (k + 1) (pd_fu a w x) (pd_fu b w k)).1 = 0 := by omega
          rw [h0]
          exact ⟨rfl, fun j hj => absurd hj (Nat.not_lt_zero j)⟩
        · rw [if_neg (fun z => z.elim h66 (fun y => hk (y.trans hx.symm)))]
          refine gm_sp_eq n (k + 1) (w + 1) (k + 1) _ _ _ (by omega) (by rw [if_pos rfl]) (fun j hjw => ?_)
          by_cases e : j = w
          · subst e
            rw [pd_fu_s, pd_fu_s, if_neg (by omega), if_pos rfl]
            exact ⟨hx, by omega⟩
          · rw [pd_fu_n e, pd_fu_n e, if_neg (by omega), if_neg (by omega)]
            exact hj j (by omega)
theorem gm_sp_0a {cs : List Nat} : ∀ (n k w x : Nat) (a b : Nat → Nat), (w = 0 → x = 0) → (0 < w → a 0 = 0) → 0 < (gm_sp cs n k w x a b).1 → (gm_sp cs n k w x a b).2.1 0 = 0
  | 0, k, w, x, a, b, h1, h2, h3 => h2 h3
  | n + 1, k, w, x, a, b, h1, h2, h3 => by
    rw [gm_sp] at h3 ⊢
    split
    · rename_i z
      rw [if_pos z] at h3
      exact gm_sp_0a n _ _ _ _ _ h1 h2 h3
    · rename_i z
      rw [if_neg z] at h3
      split
      · rename_i y
        rw [if_pos y] at h3
        exact absurd h3 (Nat.not_lt_zero 0)
      · rename_i y
        rw [if_neg y] at h3
        refine gm_sp_0a n _ _ _ _ _ (fun q => by omega) (fun _ => ?_) h3
        by_cases e : w = 0
        · subst e
          rw [pd_fu_s]
          exact h1 rfl
        · rw [pd_fu_n (fun q => e q.symm)]
          exact h2 (by omega)
theorem gm_split_n {cs : List Nat} (h : (gm_split cs).1 ≤ 6) : (gr_cut cs).1 = (gm_split cs).1 := ((gm_sp_eq (cs := cs) (cs.length + 1) 0 0 0 (fun _ => 0) (fun _ => 0) (fun _ => 0) (by decide) rfl (fun j hj => absurd hj (Nat.not_lt_zero j))).1 h).1
theorem gm_split_big {cs : List Nat} (h : ¬ (gm_split cs).1 ≤ 6) : (gr_cut cs).1 = 0 := (gm_sp_eq (cs := cs) (cs.length + 1) 0 0 0 (fun _ => 0) (fun _ => 0) (fun _ => 0) (by decide) rfl (fun j hj => absurd hj (Nat.not_lt_zero j))).2 h
theorem gm_split_w {cs : List Nat} (h : (gm_split cs).1 ≤ 6) {t : Nat} (ht : t < (gm_split cs).1) : tx_sub cs ((gm_split cs).2.1 t) ((gm_split cs).2.2 t) = gr_w cs t := by
  have h1 := (gm_sp_eq (cs := cs) (cs.length + 1) 0 0 0 (fun _ => 0) (fun _ => 0) (fun _ => 0) (by decide) rfl (fun j hj => absurd hj (Nat.not_lt_zero j))).1 h
  have h2 := h1.2 t ht
  unfold gr_w
  rw [if_pos (by rw [gm_split_n h]; exact ht)]
  exact congr (congrArg (tx_sub cs) h2.1) h2.2
theorem gm_split_0 {cs : List Nat} (h : 0 < (gm_split cs).1) : (gm_split cs).2.1 0 = 0 := gm_sp_0a _ _ _ _ _ _ (fun _ => rfl) (fun z => absurd z (Nat.not_lt_zero 0)) h
