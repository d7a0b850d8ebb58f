/-! the two grammars are alike: TYPES and SHAPES -/
theorem gr_semi_is {cs : List Nat} : ∀ (d k : Nat), cs.length ≤ d + k → (gr_semi (cs.drop k) k = none ∧ ∀ j, k ≤ j → j < cs.length → ¬ cs.getD j 0 = 59) ∨ ∃ i, gr_semi (cs.drop k) k = some i ∧ k ≤ i ∧ i < cs.length ∧ cs.getD i 0 = 59 ∧ ∀ j, k ≤ j → j < i → ¬ cs.getD j 0 = 59
  | 0, k, h => Or.inl ⟨gr_semi_end (by omega), fun j h1 h2 => by omega⟩
  | d + 1, k, h => by
    by_cases hk : k < cs.length
    · by_cases hx : cs.getD k 0 = 59
      · exact Or.inr ⟨k, gr_semi_y hk hx, Nat.le_refl k, hk, hx, fun j h1 h2 => by omega⟩
      · rw [gr_semi_n hk hx]
        rcases gr_semi_is (cs := cs) d (k + 1) (by omega) with ⟨h1, h2⟩ | ⟨i, h1, h2, h3, h4, h5⟩
        · refine Or.inl ⟨h1, fun j q1 q2 => ?_⟩
          by_cases e : j = k
          · rw [e]
            exact hx
          · exact h2 j (by omega) q2
        · refine Or.inr ⟨i, h1, by omega, h3, h4, fun j q1 q2 => ?_⟩
          by_cases e : j = k
          · rw [e]
            exact hx
          · exact h5 j (by omega) q2
    · exact Or.inl ⟨gr_semi_end (by omega), fun j h1 h2 => by omega⟩
theorem gm_nte_eq {cs : List Nat} {x to k : Nat} (hto : to ≤ cs.length) (hk : x + k ≤ to) : (if x + k < gm_name cs (x + k) to ∧ gm_name cs (x + k) to < to ∧ cs.getD (gm_name cs (x + k) to) 0 = 59 then some (gm_name cs (x + k) to + 1) else none) = (gr_nte (tx_sub cs x to) k).map (fun i => x + i) := by
  have hl : (tx_sub cs x to).length = to - x := tx_sub_len hto
  have hg : ∀ j, j < to - x → (tx_sub cs x to).getD j 0 = cs.getD (x + j) 0 := fun j hj => tx_sub_get hj
  unfold gr_nte
  rcases gr_semi_is (cs := tx_sub cs x to) (to - x) k (by omega) with ⟨h1, h2⟩ | ⟨i, h1, h2, h3, h4, h5⟩
  · rw [h1, if_neg]
    · rfl
    · intro z
      have := h2 (gm_name cs (x + k) to - x) (by omega) (by omega)
      rw [hg _ (by omega), show x + (gm_name cs (x + k) to - x) = gm_name cs (x + k) to by omega] at this
      exact this z.2.2
  · rw [h1]
    show _ = Option.map (fun i => x + i) (if gr_name (tx_sub (tx_sub cs x to) k i) = true then some (i + 1) else none)
    rw [hl] at h3
    rw [hg i h3] at h4
    rw [tx_sub_sub hto (by omega) (by omega)]
    by_cases hn : gr_name (tx_sub cs (x + k) (x + i)) = true
    · obtain ⟨n1, n2⟩ := gm_name_y (cs := cs) (x := x + k) (to := to) (i := x + i) (by omega) (by omega) hto (Or.inr ⟨by rw [h4]; decide, fun z => by rw [h4] at z; cases z⟩) hn
      rw [if_pos hn, n1, if_pos ⟨n2, by omega, h4⟩]
      rfl
    · rw [if_neg hn, if_neg]
      · rfl
      · intro z
        have hn2 := gm_name_t (cs := cs) (x := x + k) (to := to) (by omega) hto z.1
        have hno := gr_name_no (cs := cs) (d := 59) (by omega) hn2 (by decide) (by decide)
        by_cases e : gm_name cs (x + k) to = x + i
        · rw [e] at hn2
          exact hn hn2
        · by_cases e2 : gm_name cs (x + k) to < x + i
          · have := h5 (gm_name cs (x + k) to - x) (by omega) (by omega)
            rw [hg _ (by omega), show x + (gm_name cs (x + k) to - x) = gm_name cs (x + k) to by omega] at this
            exact this z.2.2
          · exact hno (x + i) (by omega) (by omega) h4
theorem gm_br_eq {cs : List Nat} {x to : Nat} (hto : to ≤ cs.length) : ∀ (d k : Nat), to ≤ d + (x + k) → x + k ≤ to → gm_br cs to (to - (x + k)) (x + k) = x + gr_br ((tx_sub cs x to).drop k) k
  | 0, k, h1, h2 => by
    rw [gm_br_n (by omega), gr_br_end (by rw [tx_sub_len hto]; omega)]
  | d + 1, k, h1, h2 => by
    by_cases hk : x + k < to
    · have hl : k < (tx_sub cs x to).length := by rw [tx_sub_len hto]; omega
      have hg : (tx_sub cs x to).getD k 0 = cs.getD (x + k) 0 := tx_sub_get (by omega)
      by_cases hx : cs.getD (x + k) 0 = 91
      · rw [gm_br_s hk hx, gr_br_y hl (hg.trans hx)]
        exact gm_br_eq hto d (k + 1) (by omega) (by omega)
      · rw [gm_br_n (fun z => hx z.2), gr_br_n hl (fun z => hx (hg.symm.trans z))]
    · rw [gm_br_n (by omega), gr_br_end (by rw [tx_sub_len hto]; omega)]
theorem gm_sty_ix {c : Nat} (h : gm_sty c = true) : ∃ j, tx_ix [73, 74, 70, 68, 90, 66, 67, 83] c = some j := by
  rcases of_decide_eq_true h with e | e | e | e | e | e | e | e <;> subst e <;> exact ⟨_, rfl⟩
theorem gm_sty_no {c : Nat} (h : ¬ gm_sty c = true) : tx_ix [73, 74, 70, 68, 90, 66, 67, 83] c = none := by
  apply tx_ix_none
  intro j hj z
  apply h
  have hj : j < 8 := hj
  apply decide_eq_true
  rcases (show j = 0 ∨ j = 1 ∨ j = 2 ∨ j = 3 ∨ j = 4 ∨ j = 5 ∨ j = 6 ∨ j = 7 by omega) with e | e | e | e | e | e | e | e <;> subst e <;> rw [← z] <;> decide
theorem gm_type_eq {cs : List Nat} {x to k : Nat} (hto : to ≤ cs.length) (hk : x + k ≤ to) : gm_type cs (x + k) to = (gr_te (tx_sub cs x to) k).map (fun i => x + i) := by
  have hb := gm_br_eq (cs := cs) (x := x) hto to k (by omega) hk
  have hl := gm_br_le (cs := cs) (to := to) (to - (x + k)) (x + k) hk
  have hw : (tx_sub cs x to).length = to - x := tx_sub_len hto
  unfold gm_type
  rw [hb] at hl ⊢
  generalize hq : gr_br ((tx_sub cs x to).drop k) k = b at hl
  by_cases e : x + b = to
  · rw [gr_te_0 hq (by omega)]
    unfold gm_tk
    rw [if_pos e]
    rfl
  · have hg : (tx_sub cs x to).getD b 0 = cs.getD (x + b) 0 := tx_sub_get (by omega)
    unfold gm_tk
    rw [if_neg e]
    by_cases hs : gm_sty (cs.getD (x + b) 0) = true
    · obtain ⟨j, hj⟩ := gm_sty_ix hs
      have h76 : ¬ cs.getD (x + b) 0 = 76 := fun z => by rw [z] at hs; exact absurd hs (by decide)
      rw [if_pos hs, gr_te_s hq (by omega) (by rw [hg]; exact h76) (by rw [hg]; exact hj)]
      rfl
    · rw [if_neg hs]
      by_cases h76 : cs.getD (x + b) 0 = 76
      · rw [if_neg (fun z => z h76), gr_te_L hq (by omega) (by rw [hg]; exact h76)]
        exact gm_nte_eq (x := x) (k := b + 1) hto (by omega)
      · rw [if_pos h76, gr_te_n hq (by omega) (by rw [hg]; exact h76) (by rw [hg]; exact gm_sty_no hs)]
        rfl
theorem gm_type_w {cs : List Nat} {x to : Nat} (hx : x < to) (hto : to ≤ cs.length) : gr_type (tx_sub cs x to) = decide (gm_type cs x to = some to) := by
  have h := gm_type_eq (cs := cs) (x := x) (to := to) (k := 0) hto (by omega)
  rw [Nat.add_zero] at h
  unfold gr_type
  rw [h, tx_sub_len hto]
  rcases gr_te (tx_sub cs x to) 0 with _ | i
  · rfl
  · show decide (some i = some (to - x)) = decide (some (x + i) = some to)
    by_cases e : i = to - x
    · rw [decide_eq_true (by rw [e]), decide_eq_true (by rw [e]; congr 1; omega)]
    · rw [decide_eq_false (fun z => e (Option.some.inj z)), decide_eq_false (fun z => e (by have := Option.some.inj z; omega))]
def gm_cutO (to : Nat) (o : Option Nat) : Option Nat := match o with
  | none => none
  | some a => if a < to then some a else none
def gr_cutO (w : List Nat) (x : Nat) (o : Option Nat) : Option Nat := match o with
  | none => none
  | some a => if gr_at w a 41 = true then some (x + a) else none
theorem gm_shl_eq {cs : List Nat} {x to : Nat} (hto : to ≤ cs.length) : ∀ (n m k : Nat), to < n + (x + k) → to - x ≤ m + k → x + k ≤ to → gm_cutO to (gm_sl cs to n (x + k)) = gr_cutO (tx_sub cs x to) x (gr_shl (tx_sub cs x to) m (some k))
  | 0, m, k, h1, h2, h3 => by omega
  | n + 1, m, k, h1, h2, h3 => by
    have hw : (tx_sub cs x to).length = to - x := tx_sub_len hto
    by_cases hk : x + k < to
    · have hg : (tx_sub cs x to).getD k 0 = cs.getD (x + k) 0 := tx_sub_get (by omega)
      by_cases h41 : cs.getD (x + k) 0 = 41
      · have ha : gr_at (tx_sub cs x to) k 41 = true := decide_eq_true ⟨by omega, hg.trans h41⟩
        rw [gm_sl_e (fun z => z.2 h41) (by omega), gr_shl_t ha]
        unfold gm_cutO gr_cutO
        show (if x + k < to then _ else _) = (if gr_at _ k 41 = true then _ else _)
        rw [if_pos hk, if_pos ha]
      · have ha : gr_at (tx_sub cs x to) k 41 = false := decide_eq_false (fun z => h41 (hg.symm.trans z.2))
        rw [gr_shl_s (by omega) ha]
        have ht := gm_type_eq (cs := cs) (x := x) (to := to) (k := k) hto (by omega)
        rcases hq : gr_te (tx_sub cs x to) k with _ | i
        · rw [hq] at ht
          rw [gm_sl_n ⟨hk, h41⟩ ht (by omega), gr_shl_none]
          rfl
        · rw [hq] at ht
          have ht : gm_type cs (x + k) to = some (x + i) := ht
          have hle := gm_type_le ht (by omega)
          rw [gm_sl_y ⟨hk, h41⟩ ht (by omega)]
          exact gm_shl_eq hto n (m - 1) i (by omega) (by omega) (by omega)
    · have ha : gr_at (tx_sub cs x to) k 41 = false := decide_eq_false (fun z => by have := z.1; omega)
      rw [gm_sl_e (by omega) (by omega)]
      have hr : gr_cutO (tx_sub cs x to) x (gr_shl (tx_sub cs x to) m (some k)) = none := by
        cases m with
        | zero =>
          show (if gr_at _ k 41 = true then _ else _) = _
          rw [if_neg (by rw [ha]; decide)]
        | succ m =>
          rw [gr_shl_s (by omega) ha, gr_te_0 (gr_br_end (by omega)) (by omega), gr_shl_none]
          rfl
      rw [hr]
      show (if x + k < to then _ else _) = _
      rw [if_neg hk]
theorem gm_shape_eq {cs : List Nat} {x to : Nat} (hx : x < to) (hto : to ≤ cs.length) : gr_shape (tx_sub cs x to) = gm_shape cs x to := by
  have hw : (tx_sub cs x to).length = to - x := tx_sub_len hto
  have hg : (tx_sub cs x to).getD 0 0 = cs.getD x 0 := tx_sub_get (by omega)
  unfold gr_shape gm_shape
  by_cases h40 : cs.getD x 0 = 40
  · rw [if_neg (fun z => z h40), show gr_at (tx_sub cs x to) 0 40 = true from decide_eq_true ⟨by omega, hg.trans h40⟩, Bool.true_and, hw]
    have hs := gm_shl_eq (cs := cs) (x := x) (to := to) hto (to - x) (to - x - 1) 1 (by omega) (by omega) (by omega)
    rcases hA : gm_sl cs to (to - x) (x + 1) with _ | a
    · rw [hA] at hs
      rcases hB : gr_shl (tx_sub cs x to) (to - x - 1) (some 1) with _ | b
      · rfl
      · rw [hB] at hs
        have hs : none = (if gr_at (tx_sub cs x to) b 41 = true then some (x + b) else none) := hs
        by_cases hb : gr_at (tx_sub cs x to) b 41 = true
        · rw [if_pos hb] at hs
          cases hs
        · show (gr_at (tx_sub cs x to) b 41 && _) = false
          rw [show gr_at (tx_sub cs x to) b 41 = false by simpa using hb]
          rfl
    · rw [hA] at hs
      have hs : (if a < to then some a else none) = gr_cutO (tx_sub cs x to) x (gr_shl (tx_sub cs x to) (to - x - 1) (some 1)) := hs
      show _ = if ¬ a < to then false else _
      by_cases ha : a < to
      · rw [if_pos ha] at hs
        rw [if_neg (fun z => z ha)]
        rcases hB : gr_shl (tx_sub cs x to) (to - x - 1) (some 1) with _ | b
        · rw [hB] at hs
          cases hs
        · rw [hB] at hs
          have hs : some a = (if gr_at (tx_sub cs x to) b 41 = true then some (x + b) else none) := hs
          by_cases hb : gr_at (tx_sub cs x to) b 41 = true
          · rw [if_pos hb] at hs
            have hs := Option.some.inj hs
            subst hs
            show (gr_at (tx_sub cs x to) b 41 && _) = _
            rw [hb, Bool.true_and]
            have ht := gm_type_eq (cs := cs) (x := x) (to := to) (k := b + 1) hto (by omega)
            have ht : gm_type cs (x + b + 1) to = (gr_te (tx_sub cs x to) (b + 1)).map (fun i => x + i) := ht
            congr 1
            · unfold gr_at
              by_cases e : x + b + 1 = to - 1 ∧ cs.getD (x + b + 1) 0 = 86
              · rw [decide_eq_true e, decide_eq_true (p := _ ∧ _) ⟨by omega, by rw [tx_sub_get (by omega)]; exact e.2⟩, decide_eq_true (by omega)]
                rfl
              · rw [decide_eq_false e]
                by_cases e2 : to - x = b + 2
                · rw [decide_eq_false (p := _ ∧ _) (fun z => e ⟨by omega, by have z2 := z.2; rw [tx_sub_get (by omega)] at z2; exact z2⟩)]
                  rfl
                · rw [decide_eq_false e2, Bool.and_false]
            · rw [ht]
              rcases hq : gr_te (tx_sub cs x to) (b + 1) with _ | i
              · rw [decide_eq_false (fun z => by cases z), decide_eq_false (fun z => by cases z.2)]
              · rw [hq] at ht
                have ht : gm_type cs (x + b + 1) to = some (x + i) := ht
                have hle := gm_type_le ht (by omega)
                show decide (some i = some (to - x)) = decide (_ ∧ some (x + i) = some to)
                by_cases e : i = to - x
                · rw [decide_eq_true (by rw [e]), decide_eq_true ⟨by omega, by rw [e]; congr 1; omega⟩]
                · rw [decide_eq_false (fun z => e (Option.some.inj z)), decide_eq_false (fun z => e (by have := Option.some.inj z.2; omega))]
          · rw [if_neg hb] at hs
            cases hs
      · rw [if_neg ha] at hs
        rw [if_pos ha]
        rcases hB : gr_shl (tx_sub cs x to) (to - x - 1) (some 1) with _ | b
        · rfl
        · rw [hB] at hs
          have hs : none = (if gr_at (tx_sub cs x to) b 41 = true then some (x + b) else none) := hs
          by_cases hb : gr_at (tx_sub cs x to) b 41 = true
          · rw [if_pos hb] at hs
            cases hs
          · show (gr_at (tx_sub cs x to) b 41 && _) = false
            rw [show gr_at (tx_sub cs x to) b 41 = false by simpa using hb]
            rfl
  · rw [if_pos h40, show gr_at (tx_sub cs x to) 0 40 = false from decide_eq_false (fun z => h40 (hg.symm.trans z.2))]
    rfl
theorem gm_ism_s {cs : List Nat} {x to : Nat} (hx : x < to) (hto : to ≤ cs.length) (h : gm_shape cs x to = true) : gr_ism (tx_sub cs x to) = true := by
  unfold gm_shape at h
  by_cases h40 : cs.getD x 0 = 40
  · unfold gr_ism
    rw [tx_ix_at (e := x) (Nat.le_refl x) hx hto h40 (fun j h1 h2 => by omega), Nat.sub_self]
    rfl
  · rw [if_pos h40] at h
    cases h
theorem gm_ism_t {cs : List Nat} {x to : Nat} (hx : x < to) (hto : to ≤ cs.length) (h : gm_type cs x to = some to) : gr_ism (tx_sub cs x to) = false := by
  apply decide_eq_false
  intro z
  have h1 := (tx_ix_is z).1
  rw [tx_sub_get (by omega), Nat.add_zero] at h1
  unfold gm_type at h
  rw [gm_br_n (fun y => by rw [h1] at y; cases y.2)] at h
  unfold gm_tk at h
  rw [if_neg (by omega), if_neg (by rw [h1]; decide), if_pos (by rw [h1]; decide)] at h
  cases h
theorem gm_sv {cs : List Nat} {x to : Nat} (hto : to ≤ cs.length) (h : gm_shape cs x to = true) (h3 : to - x = 3) (hv : cs.getD (to - 1) 0 = 86) : tx_sub cs x to = [40, 41, 86] := by
  have hto2 : to = x + 3 := by omega
  subst hto2
  have hv : cs.getD (x + 2) 0 = 86 := hv
  unfold gm_shape at h
  by_cases h40 : cs.getD x 0 = 40
  · rw [if_neg (fun z => z h40), h3] at h
    have h41 : cs.getD (x + 1) 0 = 41 := by
      rcases Decidable.em (cs.getD (x + 1) 0 = 41) with e | e
      · exact e
      · exfalso
        rcases hq : gm_type cs (x + 1) (x + 3) with _ | k2
        · rw [gm_sl_n ⟨by omega, e⟩ hq (by omega)] at h
          cases h
        · have hle := gm_type_le hq (by omega)
          rw [gm_sl_y ⟨by omega, e⟩ hq (by omega)] at h
          rcases (show k2 = x + 2 ∨ k2 = x + 3 by omega) with e2 | e2
          · subst e2
            have hn : gm_type cs (x + 2) (x + 3) = none := by
              unfold gm_type
              rw [gm_br_n (fun y => by rw [hv] at y; cases y.2)]
              unfold gm_tk
              rw [if_neg (by omega), if_neg (by rw [hv]; decide), if_pos (by rw [hv]; decide)]
            rw [gm_sl_n ⟨by omega, by rw [hv]; decide⟩ hn (by omega)] at h
            cases h
          · subst e2
            rw [gm_sl_e (by omega) (by omega)] at h
            have h : (if ¬ x + 3 < x + 3 then false else _) = true := h
            rw [if_pos (by omega)] at h
            cases h
    apply Eq.symm
    refine tx_eq_at hto (by rw [h3]; rfl) (fun t ht => ?_)
    rcases (show t = 0 ∨ t = 1 ∨ t = 2 by omega) with e | e | e <;> subst e
    · exact h40.symm
    · exact h41.symm
    · exact hv.symm
  · rw [if_pos h40] at h
    cases h
