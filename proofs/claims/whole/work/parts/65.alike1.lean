/-! the two grammars are alike: NAMES and MEMBERS -/
theorem tx_sub_s {cs : List Nat} {x k : Nat} (hk : x ≤ k) (hl : k < cs.length) : tx_sub cs x (k + 1) = tx_sub cs x k ++ [cs.getD k 0] := by
  unfold tx_sub
  rw [show k + 1 - x = (k - x) + 1 by omega, List.take_succ, List.getElem?_drop, show x + (k - x) = k by omega, List.getD_eq_getElem?_getD, List.getElem?_eq_getElem hl]
  rfl
theorem tx_sub_sub {cs : List Nat} {x to a b : Nat} (hto : to ≤ cs.length) (hb : b ≤ to - x) (hx : x ≤ to) : tx_sub (tx_sub cs x to) a b = tx_sub cs (x + a) (x + b) := by
  apply tx_ext9
  · rw [tx_sub_len (by rw [tx_sub_len hto]; omega), tx_sub_len (by omega)]
    omega
  · intro t ht
    rw [tx_sub_len (by rw [tx_sub_len hto]; omega)] at ht
    rw [tx_sub_get ht, tx_sub_get (by omega), tx_sub_get (by omega), show x + (a + t) = x + a + t by omega]
theorem tx_ix_is {cs : List Nat} {x i : Nat} (h : tx_ix cs x = some i) : cs.getD i 0 = x ∧ ∀ j, j < i → ¬ cs.getD j 0 = x := by
  have hl := tx_ix_lt h
  have h2 := List.findIdx?_eq_some_iff_getElem.mp h
  obtain ⟨q, h3, h4⟩ := h2
  refine ⟨?_, fun j hj => ?_⟩
  · rw [List.getD_eq_getElem?_getD, List.getElem?_eq_getElem hl]
    exact eq_of_beq h3
  · have := h4 j hj
    rw [List.getD_eq_getElem?_getD, List.getElem?_eq_getElem (by omega)]
    intro z
    exact this (beq_iff_eq.mpr z)
theorem tx_ix_no {cs : List Nat} {x : Nat} (h : tx_ix cs x = none) : ∀ j, j < cs.length → ¬ cs.getD j 0 = x := by
  intro j hj z
  have h2 := List.findIdx?_eq_none_iff.mp h (cs.getD j 0) (tx_mem hj)
  rw [z] at h2
  simp at h2
theorem tx_ix_at {cs : List Nat} {x to e d : Nat} (hx : x ≤ e) (he : e < to) (hto : to ≤ cs.length) (hd : cs.getD e 0 = d) (hn : ∀ j, x ≤ j → j < e → ¬ cs.getD j 0 = d) : tx_ix (tx_sub cs x to) d = some (e - x) := by
  apply tx_ix_some
  · rw [tx_sub_len hto]
    omega
  · intro j hj
    rw [tx_sub_get (by omega)]
    exact hn _ (by omega) (by omega)
  · rw [tx_sub_get (by omega), show x + (e - x) = e by omega]
    exact hd
theorem tx_ix_non {cs : List Nat} {x to d : Nat} (hto : to ≤ cs.length) (hn : ∀ j, x ≤ j → j < to → ¬ cs.getD j 0 = d) : tx_ix (tx_sub cs x to) d = none := by
  apply tx_ix_none
  intro j hj
  rw [tx_sub_len hto] at hj
  rw [tx_sub_get hj]
  exact hn _ (by omega) (by omega)
def gm_stp (o : Option Bool) (x : Nat) : Option Bool := match o with
  | none => none
  | some p => if x = 47 then (if p = true then some false else none) else if gr_pl x = true then some true else none
def gm_run (t : List Nat) (o : Option Bool) : Option Bool := t.foldl gm_stp o
theorem gm_run_none (t : List Nat) : gm_run t none = none := by
  induction t with
  | nil => rfl
  | cons x t ih => exact ih
theorem gm_stp_l {p : Bool} {c : Nat} (h : gr_pl c = true) : gm_stp (some p) c = some true := by
  show (if c = 47 then _ else _) = _
  rw [if_neg (fun z => by rw [z] at h; exact absurd h (by decide)), if_pos h]
theorem gm_stp_x {p : Bool} {c : Nat} (h : gr_pl c = false) (h2 : ¬ c = 47) : gm_stp (some p) c = none := by
  show (if c = 47 then _ else _) = _
  rw [if_neg h2, if_neg (by rw [h]; decide)]
theorem gm_nm_run : ∀ (t : List Nat) (p : Bool), gr_nm t p = decide (gm_run t (some p) = some true)
  | [], p => by cases p <;> rfl
  | x :: t, p => by
    rw [gr_nm]
    show _ = decide (gm_run t (gm_stp (some p) x) = some true)
    by_cases h : x = 47
    · rw [if_pos h]
      subst h
      cases p
      · show false = decide (gm_run t none = some true)
        rw [gm_run_none]
        rfl
      · exact gm_nm_run t false
    · rw [if_neg h]
      by_cases h2 : gr_pl x = true
      · rw [if_pos h2, gm_stp_l h2]
        exact gm_nm_run t true
      · rw [if_neg h2, gm_stp_x (by simpa using h2) h, gm_run_none]
        rfl
def gm_st (cs : List Nat) (x k : Nat) : Option Bool := gm_run (tx_sub cs x k) (some false)
theorem gm_st_0 {cs : List Nat} {x : Nat} : gm_st cs x x = some false := by
  unfold gm_st
  rw [tx_sub_0 (Nat.le_refl x)]
  rfl
theorem gm_st_s {cs : List Nat} {x k : Nat} (hk : x ≤ k) (hl : k < cs.length) : gm_st cs x (k + 1) = gm_stp (gm_st cs x k) (cs.getD k 0) := by
  unfold gm_st gm_run
  rw [tx_sub_s hk hl, List.foldl_append]
  rfl
theorem gm_st_dead {cs : List Nat} {x k : Nat} (hx : x ≤ k) (h : gm_st cs x k = none) : ∀ d, k + d ≤ cs.length → gm_st cs x (k + d) = none
  | 0, _ => h
  | d + 1, hl => by
    rw [← Nat.add_assoc, gm_st_s (by omega) (by omega), gm_st_dead hx h d (by omega)]
    rfl
theorem gm_st_l {cs : List Nat} {x k : Nat} {p : Bool} (hx : x ≤ k) (h : gm_st cs x k = some p) : ∀ d, k + d + 1 ≤ cs.length → (∀ i, k ≤ i → i < k + d + 1 → gr_pl (cs.getD i 0) = true) → gm_st cs x (k + d + 1) = some true
  | 0, hl, hp => by
    rw [Nat.add_zero, gm_st_s hx (by omega), h, gm_stp_l (hp k (by omega) (by omega))]
  | d + 1, hl, hp => by
    rw [gm_st_s (by omega) (by omega), ← Nat.add_assoc, gm_st_l hx h d (by omega) (fun i h1 h2 => hp i h1 (by omega)), gm_stp_l (hp _ (by omega) (by omega))]
theorem gm_bp_ok {cs : List Nat} {to : Nat} : ∀ (n x : Nat), to ≤ n + x → x ≤ to → (∀ i, x ≤ i → i < gm_bp cs to n x → gr_pl (cs.getD i 0) = true) ∧ (gm_bp cs to n x = to ∨ gr_pl (cs.getD (gm_bp cs to n x) 0) = false)
  | 0, x, h1, h2 => ⟨fun i h3 h4 => by rw [gm_bp] at h4; omega, Or.inl (by rw [gm_bp]; omega)⟩
  | n + 1, x, h1, h2 => by
    rw [gm_bp]
    split
    · rename_i z
      have ih := gm_bp_ok (cs := cs) (to := to) n (x + 1) (by omega) (by omega)
      refine ⟨fun i h3 h4 => ?_, ih.2⟩
      by_cases e : i = x
      · subst e
        exact z.2
      · exact ih.1 i (by omega) h4
    · rename_i z
      refine ⟨fun i h3 h4 => by omega, ?_⟩
      by_cases e : x = to
      · exact Or.inl e
      · refine Or.inr ?_
        rcases Bool.eq_false_or_eq_true (gr_pl (cs.getD x 0)) with y | y
        · exact absurd ⟨by omega, y⟩ z
        · exact y
theorem gm_part_ok {cs : List Nat} {x to : Nat} (h : x ≤ to) : (∀ i, x ≤ i → i < gm_part cs x to → gr_pl (cs.getD i 0) = true) ∧ (gm_part cs x to = to ∨ gr_pl (cs.getD (gm_part cs x to) 0) = false) := gm_bp_ok _ _ (by omega) h
def gm_stop (cs : List Nat) (x to k : Nat) : Prop := k = to ∨ (gr_pl (cs.getD k 0) = false ∧ (cs.getD k 0 = 47 → k = x ∨ k + 1 = to ∨ gr_pl (cs.getD (k + 1) 0) = false))
theorem gm_bn_ok {cs : List Nat} {x to : Nat} (hto : to ≤ cs.length) : ∀ (n k : Nat), x ≤ k → k ≤ to → to ≤ n + k → (k = x ∨ gm_st cs x k = some true) → (k = to ∨ gr_pl (cs.getD k 0) = false) → (gm_bn cs to x n k = x ∨ gm_st cs x (gm_bn cs to x n k) = some true) ∧ gm_stop cs x to (gm_bn cs to x n k)
  | 0, k, h1, h2, h3, h4, h5 => by
    rw [gm_bn]
    exact ⟨h4, Or.inl (by omega)⟩
  | n + 1, k, h1, h2, h3, h4, h5 => by
    rw [gm_bn]
    split
    · rename_i z
      have hp := gm_part_ok (cs := cs) (x := k + 1) (to := to) (by omega)
      have hl := gm_part_le (cs := cs) (x := k + 1) (to := to) (by omega)
      have hlt : k + 1 < gm_part cs (k + 1) to := by
        rcases hp.2 with y | y
        · omega
        · by_cases e : k + 1 = gm_part cs (k + 1) to
          · rw [← e, z.2.2.2] at y
            cases y
          · omega
      refine gm_bn_ok hto n _ (by omega) hl.2 (by omega) (Or.inr ?_) hp.2
      have hk : gm_st cs x k = some true := h4.resolve_left (by omega)
      have hk1 : gm_st cs x (k + 1) = some false := by
        rw [gm_st_s h1 (by omega), hk, z.2.2.1]
        rfl
      have := gm_st_l (cs := cs) (x := x) (k := k + 1) (by omega) hk1 (gm_part cs (k + 1) to - (k + 1) - 1) (by omega) (fun i h6 h7 => hp.1 i h6 (by omega))
      rwa [show k + 1 + (gm_part cs (k + 1) to - (k + 1) - 1) + 1 = gm_part cs (k + 1) to by omega] at this
    · rename_i z
      refine ⟨h4, ?_⟩
      rcases h5 with y | y
      · exact Or.inl y
      · by_cases e : k = to
        · exact Or.inl e
        · refine Or.inr ⟨y, fun h6 => ?_⟩
          by_cases e1 : k = x
          · exact Or.inl e1
          · by_cases e2 : k + 1 = to
            · exact Or.inr (Or.inl e2)
            · refine Or.inr (Or.inr ?_)
              rcases Bool.eq_false_or_eq_true (gr_pl (cs.getD (k + 1) 0)) with w | w
              · exact absurd ⟨by omega, by omega, h6, w⟩ z
              · exact w
theorem gm_uniq {cs : List Nat} {x to a b : Nat} (hto : to ≤ cs.length) (hx : x ≤ a) (sa : a = x ∨ gm_st cs x a = some true) (ta : gm_stop cs x to a) (sb : gm_st cs x b = some true) (hab : a < b) (hb : b ≤ to) : False := by
  have dead : ∀ j, x ≤ j → j ≤ b → gm_st cs x j = none → False := fun j h1 h2 h3 => by
    have := gm_st_dead h1 h3 (b - j) (by omega)
    rw [show j + (b - j) = b by omega, sb] at this
    cases this
  have ha := gm_st_s (cs := cs) hx (by omega : a < cs.length)
  rcases ta with ta | ⟨t1, t2⟩
  · omega
  by_cases h47 : cs.getD a 0 = 47
  · by_cases e : a = x
    · subst e
      rw [gm_st_0, h47] at ha
      exact dead (a + 1) (by omega) (by omega) ha
    · rw [sa.resolve_left e, h47] at ha
      have ha : gm_st cs x (a + 1) = some false := ha
      by_cases e2 : b = a + 1
      · rw [e2, ha] at sb
        cases sb
      · have hp := ((t2 h47).resolve_left e).resolve_left (by omega)
        have ha2 := gm_st_s (cs := cs) (x := x) (k := a + 1) (by omega) (by omega)
        rw [ha] at ha2
        refine dead (a + 1 + 1) (by omega) (by omega) ?_
        rw [ha2]
        by_cases e3 : cs.getD (a + 1) 0 = 47
        · rw [e3]
          rfl
        · exact gm_stp_x hp e3
  · refine dead (a + 1) (by omega) (by omega) ?_
    rw [ha]
    rcases sa with e | e
    · rw [e, gm_st_0, ← e]
      exact gm_stp_x t1 h47
    · rw [e]
      exact gm_stp_x t1 h47
theorem gm_B_ok {cs : List Nat} {x to : Nat} (hx : x ≤ to) (hto : to ≤ cs.length) : (gm_bn cs to x to (gm_part cs x to) = x ∨ gm_st cs x (gm_bn cs to x to (gm_part cs x to)) = some true) ∧ gm_stop cs x to (gm_bn cs to x to (gm_part cs x to)) := by
  have hp := gm_part_ok (cs := cs) hx
  have hl := gm_part_le (cs := cs) hx
  refine gm_bn_ok hto to _ hl.1 hl.2 (by omega) ?_ hp.2
  by_cases e : gm_part cs x to = x
  · exact Or.inl e
  · right
    have := gm_st_l (cs := cs) (x := x) (k := x) (Nat.le_refl x) gm_st_0 (gm_part cs x to - x - 1) (by omega) (fun i h6 h7 => hp.1 i h6 (by omega))
    rwa [show x + (gm_part cs x to - x - 1) + 1 = gm_part cs x to by omega] at this
theorem gr_name_st {cs : List Nat} {x k : Nat} : gr_name (tx_sub cs x k) = true ↔ gm_st cs x k = some true ∧ (tx_sub cs x k).length ≤ 24 := by
  unfold gr_name
  rw [gm_nm_run, Bool.and_eq_true_iff]
  exact ⟨fun h => ⟨of_decide_eq_true h.1, of_decide_eq_true h.2⟩, fun h => ⟨decide_eq_true h.1, decide_eq_true h.2⟩⟩
theorem gm_name_y {cs : List Nat} {x to i : Nat} (hx : x ≤ i) (hi : i ≤ to) (hto : to ≤ cs.length) (hs : i = to ∨ (gr_pl (cs.getD i 0) = false ∧ (cs.getD i 0 = 47 → i + 1 = to ∨ gr_pl (cs.getD (i + 1) 0) = false))) (hn : gr_name (tx_sub cs x i) = true) : gm_name cs x to = i ∧ x < i := by
  obtain ⟨h1, h2⟩ := gr_name_st.mp hn
  rw [tx_sub_len (by omega)] at h2
  have hxi : x < i := by
    by_cases e : x = i
    · rw [← e, gm_st_0] at h1
      cases h1
    · omega
  have hB := gm_B_ok (cs := cs) (x := x) (to := to) (by omega) hto
  have hp := gm_part_le (cs := cs) (x := x) (to := to) (by omega)
  have hl := gm_bn_le (cs := cs) (to := to) (x0 := x) to (gm_part cs x to) hp.1 hp.2
  have hst : gm_stop cs x to i := hs.imp id (fun z => ⟨z.1, fun y => Or.inr (z.2 y)⟩)
  have he : gm_bn cs to x to (gm_part cs x to) = i := by
    rcases Nat.lt_trichotomy (gm_bn cs to x to (gm_part cs x to)) i with z | z | z
    · exact (gm_uniq hto hl.1 hB.1 hB.2 h1 z hi).elim
    · exact z
    · exact (gm_uniq hto hx (Or.inr h1) hst (hB.1.resolve_left (by omega)) z hl.2).elim
  unfold gm_name
  rw [he, if_neg (by omega)]
  exact ⟨rfl, hxi⟩
theorem gm_name_t {cs : List Nat} {x to : Nat} (hx : x ≤ to) (hto : to ≤ cs.length) (h : x < gm_name cs x to) : gr_name (tx_sub cs x (gm_name cs x to)) = true := by
  have hB := gm_B_ok (cs := cs) hx hto
  have hl := gm_name_le (cs := cs) hx
  rw [gr_name_st, tx_sub_len (by omega)]
  unfold gm_name at h hl ⊢
  split
  · rename_i z
    rw [if_pos z] at h
    omega
  · rename_i z
    rw [if_neg z] at h
    exact ⟨hB.1.resolve_left (by omega), by omega⟩
theorem gr_nm_mem : ∀ (t : List Nat) (p : Bool), gr_nm t p = true → ∀ c ∈ t, gr_pl c = true ∨ c = 47
  | [], _, _, c, hc => by cases hc
  | x :: t, p, h, c, hc => by
    rw [gr_nm] at h
    rcases List.mem_cons.mp hc with e | e
    · subst e
      by_cases h2 : c = 47
      · exact Or.inr h2
      · rw [if_neg h2] at h
        by_cases h3 : gr_pl c = true
        · exact Or.inl h3
        · rw [if_neg h3] at h
          cases h
    · split at h
      · split at h
        · exact gr_nm_mem t _ h c e
        · cases h
      · split at h
        · exact gr_nm_mem t _ h c e
        · cases h
theorem gr_name_ch {cs : List Nat} {x e : Nat} (he : e ≤ cs.length) (h : gr_name (tx_sub cs x e) = true) : ∀ j, x ≤ j → j < e → gr_pl (cs.getD j 0) = true ∨ cs.getD j 0 = 47 := by
  intro j h1 h2
  have h3 := gr_nm_mem _ _ (Bool.and_eq_true_iff.mp h).1 ((tx_sub cs x e).getD (j - x) 0) (tx_mem (by rw [tx_sub_len he]; omega))
  rwa [tx_sub_get (by omega), show x + (j - x) = j by omega] at h3
theorem gr_name_no {cs : List Nat} {x e d : Nat} (he : e ≤ cs.length) (h : gr_name (tx_sub cs x e) = true) (hd : gr_pl d = false) (hd2 : ¬ d = 47) : ∀ j, x ≤ j → j < e → ¬ cs.getD j 0 = d := by
  intro j h1 h2 z
  rcases gr_name_ch he h j h1 h2 with y | y
  · rw [z, hd] at y
    cases y
  · exact hd2 (z.symm.trans y)
theorem gm_name_eq {cs : List Nat} {x to : Nat} (hx : x < to) (hto : to ≤ cs.length) : gr_name (tx_sub cs x to) = decide (gm_name cs x to = to) := by
  by_cases h : gm_name cs x to = to
  · rw [decide_eq_true h]
    have := gm_name_t (cs := cs) (x := x) (to := to) (by omega) hto (by omega)
    rwa [h] at this
  · rw [decide_eq_false h]
    rcases Bool.eq_false_or_eq_true (gr_name (tx_sub cs x to)) with y | y
    · exact absurd (gm_name_y (by omega) (Nat.le_refl _) hto (Or.inl rfl) y).1 h
    · exact y
theorem gm_part_eq {cs : List Nat} {x to : Nat} (hx : x ≤ to) (hto : to ≤ cs.length) : gr_part (tx_sub cs x to) = decide (gm_part cs x to = to ∧ x < to) := by
  have hp := gm_part_ok (cs := cs) hx
  have hl := gm_part_le (cs := cs) hx
  by_cases h : gm_part cs x to = to
  · rw [gr_part_t (fun j hj => ?_), tx_sub_len hto]
    · by_cases e : x < to
      · rw [decide_eq_true (by omega), decide_eq_true ⟨h, e⟩]
      · rw [decide_eq_false (by omega), decide_eq_false (by omega)]
    · rw [tx_sub_len hto] at hj
      rw [tx_sub_get hj]
      exact hp.1 _ (by omega) (by omega)
  · rw [decide_eq_false (fun z => h z.1)]
    refine gr_part_f (i := gm_part cs x to - x) (by rw [tx_sub_len hto]; omega) ?_
    rw [tx_sub_get (by omega), show x + (gm_part cs x to - x) = gm_part cs x to by omega]
    exact hp.2.resolve_left h
theorem gr_bd_at {cs : List Nat} {x to e : Nat} (hx : x ≤ e) (he : e < to) (hto : to ≤ cs.length) (hd : cs.getD e 0 = 46) (hn : ∀ j, x ≤ j → j < e → ¬ cs.getD j 0 = 46) : gr_bd (tx_sub cs x to) = tx_sub cs x e ∧ gr_ad (tx_sub cs x to) = tx_sub cs (e + 1) to := by
  have h := tx_ix_at hx he hto hd hn
  unfold gr_bd gr_ad
  rw [h]
  constructor
  · show tx_sub _ 0 (e - x) = _
    rw [tx_sub_sub hto (by omega) (by omega), Nat.add_zero, show x + (e - x) = e by omega]
  · show tx_sub _ (e - x + 1) _ = _
    rw [tx_sub_len hto, tx_sub_sub hto (by omega) (by omega), show x + (e - x + 1) = e + 1 by omega, show x + (to - x) = to by omega]
theorem gm_mem_bda {cs : List Nat} {x to : Nat} (hx : x < to) (hto : to ≤ cs.length) (h : gm_mem cs x to = true) : tx_sub cs x (gm_name cs x to) = gr_bd (tx_sub cs x to) ∧ tx_sub cs (gm_name cs x to + 1) to = gr_ad (tx_sub cs x to) := by
  have hm := of_decide_eq_true h
  have hn := gm_name_t (by omega) hto hm.1
  have := gr_bd_at (cs := cs) (x := x) (to := to) (e := gm_name cs x to) (by omega) (by omega) hto hm.2.2.1 (gr_name_no (by omega) hn (by decide) (by decide))
  exact ⟨this.1.symm, this.2.symm⟩
theorem gm_mem_eq {cs : List Nat} {x to : Nat} (hx : x < to) (hto : to ≤ cs.length) : gr_mem (tx_sub cs x to) = gm_mem cs x to := by
  rcases Bool.eq_false_or_eq_true (gm_mem cs x to) with h | h
  · rw [h]
    obtain ⟨h1, h2⟩ := gm_mem_bda hx hto h
    have hm := of_decide_eq_true h
    unfold gr_mem
    rw [← h1, ← h2, gm_name_t (by omega) hto hm.1, gm_part_eq (x := gm_name cs x to + 1) (to := to) (by omega) hto, decide_eq_true (And.intro hm.2.2.2.1 hm.2.1), tx_sub_len hto, decide_eq_true hm.2.2.2.2]
    rfl
  · rw [h]
    rcases Bool.eq_false_or_eq_true (gr_mem (tx_sub cs x to)) with y | y
    · exfalso
      unfold gr_mem at y
      obtain ⟨y1, y23⟩ := Bool.and_eq_true_iff.mp y
      obtain ⟨y2, y3⟩ := Bool.and_eq_true_iff.mp y23
      have y1 := of_decide_eq_true y1
      rcases hq : tx_ix (tx_sub cs x to) 46 with _ | i
      · have : gr_ad (tx_sub cs x to) = [] := by
          unfold gr_ad
          rw [hq]
        rw [this] at y2
        exact absurd y2 (by decide)
      · have hl := tx_ix_lt hq
        obtain ⟨i1, i2⟩ := tx_ix_is hq
        rw [tx_sub_len hto] at hl
        rw [tx_sub_get hl] at i1
        obtain ⟨b1, b2⟩ := gr_bd_at (cs := cs) (x := x) (to := to) (e := x + i) (by omega) (by omega) hto i1 (fun j h1 h2 => by have := i2 (j - x) (by omega); rwa [tx_sub_get (by omega), show x + (j - x) = j by omega] at this)
        rw [b1] at y3
        rw [b2] at y1 y2
        obtain ⟨n1, n2⟩ := gm_name_y (cs := cs) (x := x) (to := to) (i := x + i) (by omega) (by omega) hto (Or.inr ⟨by rw [i1]; decide, fun z => by rw [i1] at z; cases z⟩) y3
        rw [gm_part_eq (by omega) hto] at y2
        have y2 := of_decide_eq_true y2
        rw [tx_sub_len hto] at y1
        have : gm_mem cs x to = true := decide_eq_true ⟨by rw [n1]; omega, by rw [n1]; omega, by rw [n1]; exact i1, by rw [n1]; exact y2.1, by rw [n1]; exact y1⟩
        rw [h] at this
        cases this
    · exact y
