/-! what is said, by the reference's words -/
def gm_ok (cs : List Nat) : Prop := ∀ i, i < (gm_split cs).1 → (gm_split cs).2.1 i < (gm_split cs).2.2 i ∧ (gm_split cs).2.2 i ≤ cs.length
theorem gm_W.ok {fv : Nat → Nat → Int32} {cs : List Nat} (hW : gm_W fv cs (gm_split cs).1 (gm_split cs).2.1 (gm_split cs).2.2) : gm_ok cs := fun i hi => (hW.2 i hi).2.2
theorem gm_cut_is {cs : List Nat} : (gr_cut cs).1 = if (gm_split cs).1 ≤ 6 then (gm_split cs).1 else 0 := by
  split
  · rename_i h
    exact gm_split_n h
  · rename_i h
    exact gm_split_big h
theorem gm_w_y {cs : List Nat} {t : Nat} (h6 : (gm_split cs).1 ≤ 6) (ht : t < (gm_split cs).1) : gr_w cs t = tx_sub cs ((gm_split cs).2.1 t) ((gm_split cs).2.2 t) := (gm_split_w h6 ht).symm
theorem gm_w_no {cs : List Nat} {t : Nat} (h : ¬ (t < (gm_split cs).1 ∧ (gm_split cs).1 ≤ 6)) : gr_w cs t = [] := by
  unfold gr_w
  rw [if_neg]
  rw [gm_cut_is]
  split <;> omega
theorem gm_sd_name {cs : List Nat} (hb : gm_ok cs) (t : Nat) : gr_name (gr_w cs t) = (decide (t < (gm_split cs).1 ∧ (gm_split cs).1 ≤ 6) && decide (gm_name cs ((gm_split cs).2.1 t) ((gm_split cs).2.2 t) = (gm_split cs).2.2 t)) := by
  by_cases h : t < (gm_split cs).1 ∧ (gm_split cs).1 ≤ 6
  · rw [decide_eq_true h, Bool.true_and, gm_w_y h.2 h.1, gm_name_eq (hb t h.1).1 (hb t h.1).2]
  · rw [decide_eq_false h, Bool.false_and, gm_w_no h]
    first | rfl | decide
theorem gm_sd_mem {cs : List Nat} (hb : gm_ok cs) (t : Nat) : gr_mem (gr_w cs t) = (decide (t < (gm_split cs).1 ∧ (gm_split cs).1 ≤ 6) && gm_mem cs ((gm_split cs).2.1 t) ((gm_split cs).2.2 t)) := by
  by_cases h : t < (gm_split cs).1 ∧ (gm_split cs).1 ≤ 6
  · rw [decide_eq_true h, Bool.true_and, gm_w_y h.2 h.1, gm_mem_eq (hb t h.1).1 (hb t h.1).2]
  · rw [decide_eq_false h, Bool.false_and, gm_w_no h]
    first | rfl | decide
theorem gm_sd_type {cs : List Nat} (hb : gm_ok cs) (t : Nat) : gr_type (gr_w cs t) = (decide (t < (gm_split cs).1 ∧ (gm_split cs).1 ≤ 6) && decide (gm_type cs ((gm_split cs).2.1 t) ((gm_split cs).2.2 t) = some ((gm_split cs).2.2 t))) := by
  by_cases h : t < (gm_split cs).1 ∧ (gm_split cs).1 ≤ 6
  · rw [decide_eq_true h, Bool.true_and, gm_w_y h.2 h.1, gm_type_w (hb t h.1).1 (hb t h.1).2]
  · rw [decide_eq_false h, Bool.false_and, gm_w_no h]
    first | rfl | decide
theorem gm_sd_shape {cs : List Nat} (hb : gm_ok cs) (t : Nat) : gr_shape (gr_w cs t) = (decide (t < (gm_split cs).1 ∧ (gm_split cs).1 ≤ 6) && gm_shape cs ((gm_split cs).2.1 t) ((gm_split cs).2.2 t)) := by
  by_cases h : t < (gm_split cs).1 ∧ (gm_split cs).1 ≤ 6
  · rw [decide_eq_true h, Bool.true_and, gm_w_y h.2 h.1, gm_shape_eq (hb t h.1).1 (hb t h.1).2]
  · rw [decide_eq_false h, Bool.false_and, gm_w_no h]
    first | rfl | decide
theorem gm_sd_pat {cs : List Nat} (hb : gm_ok cs) (t : Nat) : gr_pat (gr_w cs t) = (decide (t < (gm_split cs).1 ∧ (gm_split cs).1 ≤ 6) && (gm_pat cs ((gm_split cs).2.1 t) ((gm_split cs).2.2 t)).isSome) := by
  by_cases h : t < (gm_split cs).1 ∧ (gm_split cs).1 ≤ 6
  · rw [decide_eq_true h, Bool.true_and, gm_w_y h.2 h.1, gm_pat_eq (hb t h.1).1 (hb t h.1).2]
  · rw [decide_eq_false h, Bool.false_and, gm_w_no h]
    first | rfl | decide
theorem tx_sub_1 {cs : List Nat} {x y z : Nat} (hy : y ≤ cs.length) : tx_sub cs x y = [z] ↔ (y - x = 1 ∧ cs.getD x 0 = z) := by
  constructor
  · intro h
    have l1 := congrArg List.length h
    rw [tx_sub_len hy] at l1
    have l1 : y - x = 1 := l1
    have z3 : (tx_sub cs x y).getD 0 0 = z := by rw [h]; rfl
    rw [tx_sub_get (by omega)] at z3
    exact ⟨l1, z3⟩
  · rintro ⟨h1, h2⟩
    exact (tx_eq_at hy (by rw [h1]; rfl) (fun t ht => by have e : t = 0 := (by omega); subst e; exact h2.symm)).symm
theorem gr_nms_iff {cs : List Nat} : ∀ (m t : Nat), gr_nms cs m t = true ↔ ∀ i, t ≤ i → i < t + m → gr_name (gr_w cs i) = true
  | 0, t => ⟨fun _ i h1 h2 => by omega, fun _ => rfl⟩
  | m + 1, t => by
    rw [gr_nms, Bool.and_eq_true, gr_nms_iff m (t + 1)]
    constructor
    · rintro ⟨h1, h2⟩ i h3 h4
      by_cases e : i = t
      · rw [e]; exact h1
      · exact h2 i (by omega) (by omega)
    · intro h
      exact ⟨h t (by omega) (by omega), fun i h3 h4 => h i (by omega) (by omega)⟩
theorem gm_head_iff {cs : List Nat} (hb : gm_ok cs) {k : Nat} (hk : k ≤ 6) : gr_head cs k = true ↔ ((2 ≤ (gm_split cs).1 ∧ ¬ (gm_split cs).1 = 3 ∧ (gm_split cs).1 ≤ k) ∧ gm_name cs ((gm_split cs).2.1 1) ((gm_split cs).2.2 1) = (gm_split cs).2.2 1 ∧ (3 < (gm_split cs).1 → (gm_split cs).2.2 2 - (gm_split cs).2.1 2 = 1 ∧ cs.getD ((gm_split cs).2.1 2) 0 = 58) ∧ ∀ t, 3 ≤ t → t < (gm_split cs).1 → gm_name cs ((gm_split cs).2.1 t) ((gm_split cs).2.2 t) = (gm_split cs).2.2 t) := by
  unfold gr_head
  rw [gm_sd_name hb 1]
  simp only [Bool.and_eq_true, Bool.or_eq_true, decide_eq_true_eq]
  by_cases h6 : (gm_split cs).1 ≤ 6
  · rw [gm_cut_is, if_pos h6, gr_nms_iff]
    constructor
    · rintro ⟨⟨h1, ⟨h2, h3⟩⟩, h4⟩
      rcases h4 with h4 | ⟨⟨h4, h5⟩, h7⟩
      · exact ⟨⟨by omega, by omega, h1⟩, h3, fun z => by omega, fun t z1 z2 => by omega⟩
      · refine ⟨⟨by omega, by omega, h1⟩, h3, fun z => ?_, fun t z1 z2 => ?_⟩
        · rw [gm_w_y h6 (by omega)] at h7
          exact (tx_sub_1 (hb 2 (by omega)).2).mp h7
        · have h8 := h5 t z1 (by omega)
          rw [gm_sd_name hb t] at h8
          exact of_decide_eq_true (Bool.and_eq_true_iff.mp h8).2
    · rintro ⟨⟨h1, h2, h3⟩, h4, h5, h7⟩
      refine ⟨⟨h3, ⟨by omega, h6⟩, h4⟩, ?_⟩
      by_cases e : (gm_split cs).1 = 2
      · exact Or.inl e
      · refine Or.inr ⟨⟨by omega, fun i z1 z2 => ?_⟩, ?_⟩
        · rw [gm_sd_name hb i, decide_eq_true (And.intro (show i < _ by omega) h6), decide_eq_true (h7 i z1 (by omega))]
          rfl
        · rw [gm_w_y h6 (by omega)]
          exact (tx_sub_1 (hb 2 (by omega)).2).mpr (h5 (by omega))
  · constructor
    · rintro ⟨⟨h1, ⟨h2, h3⟩, h5⟩, h4⟩
      exact absurd h3 h6
    · rintro ⟨⟨h1, h2, h3⟩, _⟩
      omega
theorem gm_eim_iff {cs : List Nat} (hb : gm_ok cs) (h : 3 ≤ (gm_split cs).1 ∧ (gm_split cs).1 ≤ 4) : gr_eim cs = true ↔ ¬ (if (gm_split cs).1 = 4 then gm_mk cs ((gm_split cs).2.2 3) ((gm_split cs).2.2 3 - (gm_split cs).2.1 3) ((gm_split cs).2.1 3) 0 else some 0) = none := by
  unfold gr_eim
  rw [gm_cut_is, if_pos (by omega)]
  by_cases e : (gm_split cs).1 = 3
  · rw [e]
    simp
  · have e4 : (gm_split cs).1 = 4 := by omega
    rw [if_pos e4, gm_mk_eq (hb 3 (by omega)).1 (hb 3 (by omega)).2, ← gm_w_y (by omega) (by omega), decide_eq_false e, decide_eq_true e4, Bool.false_or, Bool.true_and]
    split <;> simp_all
theorem gm_eim_no {cs : List Nat} (h : ¬ (3 ≤ (gm_split cs).1 ∧ (gm_split cs).1 ≤ 4)) : gr_eim cs = false := by
  unfold gr_eim
  rw [gm_cut_is]
  split
  · rw [decide_eq_false (by omega), decide_eq_false (by omega)]
    rfl
  · rfl
theorem gm_gmk {cs : List Nat} (hb : gm_ok cs) (h : 3 ≤ (gm_split cs).1 ∧ (gm_split cs).1 ≤ 4) (t : Nat) (ht : (if (gm_split cs).1 = 4 then gm_mk cs ((gm_split cs).2.2 3) ((gm_split cs).2.2 3 - (gm_split cs).2.1 3) ((gm_split cs).2.1 3) 0 else some 0) = some t) : t = gr_mk (gr_w cs 3) ∧ t < 4 := by
  by_cases e4 : (gm_split cs).1 = 4
  · rw [if_pos e4, gm_mk_eq (hb 3 (by omega)).1 (hb 3 (by omega)).2, ← gm_w_y (by omega) (by omega)] at ht
    split at ht
    · cases ht
      exact ⟨rfl, gr_mk_lt _⟩
    · cases ht
  · rw [if_neg e4] at ht
    cases ht
    rw [gm_w_no (by omega)]
    exact ⟨rfl, by decide⟩
theorem gm_sy_2 {cs : List Nat} (hb : gm_ok cs) : gr_said cs 2 = true ↔ ((3 ≤ (gm_split cs).1 ∧ (gm_split cs).1 ≤ 4) ∧ gm_mem cs ((gm_split cs).2.1 1) ((gm_split cs).2.2 1) = true ∧ (gm_type cs ((gm_split cs).2.1 2) ((gm_split cs).2.2 2) = some ((gm_split cs).2.2 2)) ∧ ¬ (if (gm_split cs).1 = 4 then gm_mk cs ((gm_split cs).2.2 3) ((gm_split cs).2.2 3 - (gm_split cs).2.1 3) ((gm_split cs).2.1 3) 0 else some 0) = none) := by
  have e : gr_said cs 2 = (gr_mem (gr_w cs 1) && gr_type (gr_w cs 2) && gr_eim cs) := rfl
  rw [e]
  by_cases h : 3 ≤ (gm_split cs).1 ∧ (gm_split cs).1 ≤ 4
  · rw [gm_sd_mem hb 1, gm_sd_type hb 2, decide_eq_true (And.intro (show 1 < _ by omega) (show _ ≤ 6 by omega)), decide_eq_true (And.intro (show 2 < _ by omega) (show _ ≤ 6 by omega))]
    simp only [Bool.and_eq_true, decide_eq_true_eq, Bool.true_and, gm_eim_iff hb h]
    exact ⟨fun z => ⟨h, z.1.1, z.1.2, z.2⟩, fun z => ⟨⟨z.2.1, z.2.2.1⟩, z.2.2.2⟩⟩
  · rw [gm_eim_no h, Bool.and_false]
    exact ⟨fun z => (by cases z), fun z => absurd z.1 h⟩
theorem gm_sy_3 {cs : List Nat} (hb : gm_ok cs) : gr_said cs 3 = true ↔ ((3 ≤ (gm_split cs).1 ∧ (gm_split cs).1 ≤ 4) ∧ gm_mem cs ((gm_split cs).2.1 1) ((gm_split cs).2.2 1) = true ∧ (gm_shape cs ((gm_split cs).2.1 2) ((gm_split cs).2.2 2) = true) ∧ ¬ (if (gm_split cs).1 = 4 then gm_mk cs ((gm_split cs).2.2 3) ((gm_split cs).2.2 3 - (gm_split cs).2.1 3) ((gm_split cs).2.1 3) 0 else some 0) = none) := by
  have e : gr_said cs 3 = (gr_mem (gr_w cs 1) && gr_shape (gr_w cs 2) && gr_eim cs) := rfl
  rw [e]
  by_cases h : 3 ≤ (gm_split cs).1 ∧ (gm_split cs).1 ≤ 4
  · rw [gm_sd_mem hb 1, gm_sd_shape hb 2, decide_eq_true (And.intro (show 1 < _ by omega) (show _ ≤ 6 by omega)), decide_eq_true (And.intro (show 2 < _ by omega) (show _ ≤ 6 by omega))]
    simp only [Bool.and_eq_true, decide_eq_true_eq, Bool.true_and, gm_eim_iff hb h]
    exact ⟨fun z => ⟨h, z.1.1, z.1.2, z.2⟩, fun z => ⟨⟨z.2.1, z.2.2.1⟩, z.2.2.2⟩⟩
  · rw [gm_eim_no h, Bool.and_false]
    exact ⟨fun z => (by cases z), fun z => absurd z.1 h⟩
theorem gm_cut_c {cs : List Nat} {t : Nat} (h0 : 0 < t) (ht : t ≤ 6) : decide ((gr_cut cs).1 = t) = decide ((gm_split cs).1 = t) := by
  rw [gm_cut_is]
  split
  · rfl
  · rw [decide_eq_false (by omega), decide_eq_false (by omega)]
theorem gm_sy_4 {cs : List Nat} (hb : gm_ok cs) (h : (gm_split cs).1 = 2) : gr_said cs 4 = true ↔ ((gm_pat cs ((gm_split cs).2.1 1) ((gm_split cs).2.2 1)).isSome = true) := by
  have e : gr_said cs 4 = (decide ((gr_cut cs).1 = 2) && gr_pat (gr_w cs 1)) := rfl
  rw [e, gm_cut_c (by decide) (by decide), decide_eq_true h, gm_sd_pat hb 1, decide_eq_true (And.intro (show 1 < _ by omega) (show _ ≤ 6 by omega))]
  simp only [Bool.and_eq_true, decide_eq_true_eq, Bool.true_and]
theorem gm_sy_5 {cs : List Nat} (hb : gm_ok cs) (h : (gm_split cs).1 = 2) : gr_said cs 5 = true ↔ ((gm_pat cs ((gm_split cs).2.1 1) ((gm_split cs).2.2 1)).isSome = true) := by
  have e : gr_said cs 5 = (decide ((gr_cut cs).1 = 2) && gr_pat (gr_w cs 1)) := rfl
  rw [e, gm_cut_c (by decide) (by decide), decide_eq_true h, gm_sd_pat hb 1, decide_eq_true (And.intro (show 1 < _ by omega) (show _ ≤ 6 by omega))]
  simp only [Bool.and_eq_true, decide_eq_true_eq, Bool.true_and]
theorem gm_sy_7 {cs : List Nat} (hb : gm_ok cs) (h : (gm_split cs).1 = 3) : gr_said cs 7 = true ↔ ((gm_pat cs ((gm_split cs).2.1 1) ((gm_split cs).2.2 1)).isSome = true ∧ gm_mem cs ((gm_split cs).2.1 2) ((gm_split cs).2.2 2) = true) := by
  have e : gr_said cs 7 = (decide ((gr_cut cs).1 = 3) && gr_pat (gr_w cs 1) && gr_mem (gr_w cs 2)) := rfl
  rw [e, gm_cut_c (by decide) (by decide), decide_eq_true h, gm_sd_pat hb 1, decide_eq_true (And.intro (show 1 < _ by omega) (show _ ≤ 6 by omega)), gm_sd_mem hb 2, decide_eq_true (And.intro (show 2 < _ by omega) (show _ ≤ 6 by omega))]
  simp only [Bool.and_eq_true, decide_eq_true_eq, Bool.true_and]
theorem gm_sy_11 {cs : List Nat} (hb : gm_ok cs) (h : (gm_split cs).1 = 3) : gr_said cs 11 = true ↔ (gm_mem cs ((gm_split cs).2.1 1) ((gm_split cs).2.2 1) = true ∧ gm_type cs ((gm_split cs).2.1 2) ((gm_split cs).2.2 2) = some ((gm_split cs).2.2 2)) := by
  have e : gr_said cs 11 = (decide ((gr_cut cs).1 = 3) && gr_mem (gr_w cs 1) && gr_type (gr_w cs 2)) := rfl
  rw [e, gm_cut_c (by decide) (by decide), decide_eq_true h, gm_sd_mem hb 1, decide_eq_true (And.intro (show 1 < _ by omega) (show _ ≤ 6 by omega)), gm_sd_type hb 2, decide_eq_true (And.intro (show 2 < _ by omega) (show _ ≤ 6 by omega))]
  simp only [Bool.and_eq_true, decide_eq_true_eq, Bool.true_and]
theorem gm_sy_12 {cs : List Nat} (hb : gm_ok cs) (h : (gm_split cs).1 = 3) : gr_said cs 12 = true ↔ (gm_mem cs ((gm_split cs).2.1 1) ((gm_split cs).2.2 1) = true ∧ gm_shape cs ((gm_split cs).2.1 2) ((gm_split cs).2.2 2) = true) := by
  have e : gr_said cs 12 = (decide ((gr_cut cs).1 = 3) && gr_mem (gr_w cs 1) && gr_shape (gr_w cs 2)) := rfl
  rw [e, gm_cut_c (by decide) (by decide), decide_eq_true h, gm_sd_mem hb 1, decide_eq_true (And.intro (show 1 < _ by omega) (show _ ≤ 6 by omega)), gm_sd_shape hb 2, decide_eq_true (And.intro (show 2 < _ by omega) (show _ ≤ 6 by omega))]
  simp only [Bool.and_eq_true, decide_eq_true_eq, Bool.true_and]
theorem gm_sy_8 {cs : List Nat} (hb : gm_ok cs) (h : (gm_split cs).1 = 2) : gr_said cs 8 = true ↔ (gm_name cs ((gm_split cs).2.1 1) ((gm_split cs).2.2 1) = (gm_split cs).2.2 1) := by
  have e : gr_said cs 8 = (decide ((gr_cut cs).1 = 2) && gr_name (gr_w cs 1)) := rfl
  rw [e, gm_cut_c (by decide) (by decide), decide_eq_true h, gm_sd_name hb 1, decide_eq_true (And.intro (show 1 < _ by omega) (show _ ≤ 6 by omega))]
  simp only [Bool.and_eq_true, decide_eq_true_eq, Bool.true_and]
theorem gm_sy_9 {cs : List Nat} (hb : gm_ok cs) (h : (gm_split cs).1 = 2) : gr_said cs 9 = true ↔ (gm_name cs ((gm_split cs).2.1 1) ((gm_split cs).2.2 1) = (gm_split cs).2.2 1) := by
  have e : gr_said cs 9 = (decide ((gr_cut cs).1 = 2) && gr_name (gr_w cs 1)) := rfl
  rw [e, gm_cut_c (by decide) (by decide), decide_eq_true h, gm_sd_name hb 1, decide_eq_true (And.intro (show 1 < _ by omega) (show _ ≤ 6 by omega))]
  simp only [Bool.and_eq_true, decide_eq_true_eq, Bool.true_and]
theorem gm_sy_10 {cs : List Nat} (hb : gm_ok cs) (h : (gm_split cs).1 = 2) : gr_said cs 10 = true ↔ (gm_name cs ((gm_split cs).2.1 1) ((gm_split cs).2.2 1) = (gm_split cs).2.2 1) := by
  have e : gr_said cs 10 = (decide ((gr_cut cs).1 = 2) && gr_name (gr_w cs 1)) := rfl
  rw [e, gm_cut_c (by decide) (by decide), decide_eq_true h, gm_sd_name hb 1, decide_eq_true (And.intro (show 1 < _ by omega) (show _ ≤ 6 by omega))]
  simp only [Bool.and_eq_true, decide_eq_true_eq, Bool.true_and]
theorem gm_num_w {cs : List Nat} (hb : gm_ok cs) (h : (gm_split cs).1 = 3) : gm_num cs ((gm_split cs).2.1 2) ((gm_split cs).2.2 2) = if gr_cost (gr_w cs 2) = true then some (gr_num (gr_w cs 2)) else none := by
  rw [gm_num_eq (hb 2 (by omega)).1 (hb 2 (by omega)).2, ← gm_w_y (by omega) (by omega)]
theorem gm_sy_6 {cs : List Nat} (hb : gm_ok cs) (h : (gm_split cs).1 = 3) : gr_said cs 6 = true ↔ ((gm_pat cs ((gm_split cs).2.1 1) ((gm_split cs).2.2 1)).isSome = true ∧ ¬ gm_num cs ((gm_split cs).2.1 2) ((gm_split cs).2.2 2) = none) := by
  have e : gr_said cs 6 = (decide ((gr_cut cs).1 = 3) && gr_pat (gr_w cs 1) && gr_cost (gr_w cs 2)) := rfl
  rw [e, gm_cut_c (by decide) (by decide), decide_eq_true h, gm_sd_pat hb 1, decide_eq_true (And.intro (show 1 < _ by omega) (show _ ≤ 6 by omega)), gm_num_w hb h]
  simp only [Bool.and_eq_true, Bool.true_and]
  by_cases q : gr_cost (gr_w cs 2) = true <;> simp [q]
theorem gm_sn_4 {cs : List Nat} (h : ¬ (gm_split cs).1 = 2) : gr_said cs 4 = false := by
  have e : gr_said cs 4 = (decide ((gr_cut cs).1 = 2) && gr_pat (gr_w cs 1)) := rfl
  rw [e, gm_cut_c (by decide) (by decide), decide_eq_false h, Bool.false_and]
theorem gm_sn_5 {cs : List Nat} (h : ¬ (gm_split cs).1 = 2) : gr_said cs 5 = false := by
  have e : gr_said cs 5 = (decide ((gr_cut cs).1 = 2) && gr_pat (gr_w cs 1)) := rfl
  rw [e, gm_cut_c (by decide) (by decide), decide_eq_false h, Bool.false_and]
theorem gm_sn_6 {cs : List Nat} (h : ¬ (gm_split cs).1 = 3) : gr_said cs 6 = false := by
  have e : gr_said cs 6 = (decide ((gr_cut cs).1 = 3) && gr_pat (gr_w cs 1) && gr_cost (gr_w cs 2)) := rfl
  rw [e, gm_cut_c (by decide) (by decide), decide_eq_false h, Bool.false_and]
  rfl
theorem gm_sn_7 {cs : List Nat} (h : ¬ (gm_split cs).1 = 3) : gr_said cs 7 = false := by
  have e : gr_said cs 7 = (decide ((gr_cut cs).1 = 3) && gr_pat (gr_w cs 1) && gr_mem (gr_w cs 2)) := rfl
  rw [e, gm_cut_c (by decide) (by decide), decide_eq_false h, Bool.false_and]
  rfl
theorem gm_sn_11 {cs : List Nat} (h : ¬ (gm_split cs).1 = 3) : gr_said cs 11 = false := by
  have e : gr_said cs 11 = (decide ((gr_cut cs).1 = 3) && gr_mem (gr_w cs 1) && gr_type (gr_w cs 2)) := rfl
  rw [e, gm_cut_c (by decide) (by decide), decide_eq_false h, Bool.false_and]
  rfl
theorem gm_sn_12 {cs : List Nat} (h : ¬ (gm_split cs).1 = 3) : gr_said cs 12 = false := by
  have e : gr_said cs 12 = (decide ((gr_cut cs).1 = 3) && gr_mem (gr_w cs 1) && gr_shape (gr_w cs 2)) := rfl
  rw [e, gm_cut_c (by decide) (by decide), decide_eq_false h, Bool.false_and]
  rfl
theorem gm_sn_8 {cs : List Nat} (h : ¬ (gm_split cs).1 = 2) : gr_said cs 8 = false := by
  have e : gr_said cs 8 = (decide ((gr_cut cs).1 = 2) && gr_name (gr_w cs 1)) := rfl
  rw [e, gm_cut_c (by decide) (by decide), decide_eq_false h, Bool.false_and]
theorem gm_sn_9 {cs : List Nat} (h : ¬ (gm_split cs).1 = 2) : gr_said cs 9 = false := by
  have e : gr_said cs 9 = (decide ((gr_cut cs).1 = 2) && gr_name (gr_w cs 1)) := rfl
  rw [e, gm_cut_c (by decide) (by decide), decide_eq_false h, Bool.false_and]
theorem gm_sn_10 {cs : List Nat} (h : ¬ (gm_split cs).1 = 2) : gr_said cs 10 = false := by
  have e : gr_said cs 10 = (decide ((gr_cut cs).1 = 2) && gr_name (gr_w cs 1)) := rfl
  rw [e, gm_cut_c (by decide) (by decide), decide_eq_false h, Bool.false_and]
theorem gm_sn_big {cs : List Nat} (hb : gm_ok cs) (h : ¬ (gm_split cs).1 ≤ 6) {v : Nat} (hv : v < 13) : gr_said cs v = false := by
  have hx : ∀ b : Bool, (b = true → False) → b = false := fun b hb9 => by cases b; rfl; exact (hb9 rfl).elim
  have hh : ∀ k, k ≤ 6 → gr_head cs k = false := fun k hk => hx _ (fun z => by have z1 := ((gm_head_iff hb hk).mp z).1; omega)
  rcases (show v = 0 ∨ v = 1 ∨ v = 2 ∨ v = 3 ∨ v = 4 ∨ v = 5 ∨ v = 6 ∨ v = 7 ∨ v = 8 ∨ v = 9 ∨ v = 10 ∨ v = 11 ∨ v = 12 by omega) with rfl | rfl | rfl | rfl | rfl | rfl | rfl | rfl | rfl | rfl | rfl | rfl | rfl
  · exact hh 6 (by decide)
  · exact hh 5 (by decide)
  · exact hx _ (fun z => by have z1 := ((gm_sy_2 hb).mp z).1; omega)
  · exact hx _ (fun z => by have z1 := ((gm_sy_3 hb).mp z).1; omega)
  · exact gm_sn_4 (by omega)
  · exact gm_sn_5 (by omega)
  · exact gm_sn_6 (by omega)
  · exact gm_sn_7 (by omega)
  · exact gm_sn_8 (by omega)
  · exact gm_sn_9 (by omega)
  · exact gm_sn_10 (by omega)
  · exact gm_sn_11 (by omega)
  · exact gm_sn_12 (by omega)
