/-! what a line keeps: rows hang together -/
theorem gm_fold_c {R R2 : Nat → pd_cr} : ∀ (js od : List Nat), (∀ j ∈ js, R2 j = R j) → js.foldl (gm_G R2) od = js.foldl (gm_G R) od
  | [], _, _ => rfl
  | x :: js, od, h => by
    have h1 : gm_G R2 od x = gm_G R od x := by unfold gm_G; rw [h x List.mem_cons_self]
    rw [List.foldl_cons, List.foldl_cons, h1]
    exact gm_fold_c js _ (fun j hj => h j (List.mem_cons_of_mem _ hj))
theorem gr_bt_c {R R2 : Nat → pd_cr} {o : Option Nat} (h : ∀ j, o = some j → R2 j = R j) : gr_bt R2 o = gr_bt R o := by
  cases o with
  | none => rfl
  | some j => show (R2 j).2.2.2.2.2.1 = (R j).2.2.2.2.2.1; rw [h j rfl]
theorem gr_bits_c {R R2 : Nat → pd_cr} {k : Nat} {a f g : Option Nat} (h : ∀ j, a = some j ∨ f = some j ∨ g = some j → R2 j = R j) : gr_bits R2 k a f g = gr_bits R k a f g := by
  unfold gr_bits
  rw [gr_bt_c (fun j z => h j (Or.inl z)), gr_bt_c (fun j z => h j (Or.inr (Or.inl z))), gr_bt_c (fun j z => h j (Or.inr (Or.inr z)))]
theorem gm_fl_o1 {r : pd_cr} {j : Nat} (h : r.2.2.2.1 = some j) : j ∈ gm_fl r := by
  unfold gm_fl
  rw [h]
  exact List.mem_append_left _ List.mem_cons_self
theorem gm_fl_o2 {r : pd_cr} {j : Nat} (h : r.2.2.2.2.1 = some j) : j ∈ gm_fl r := by
  unfold gm_fl
  rw [h]
  exact List.mem_append_right _ List.mem_cons_self
theorem gm_fl_m {r : pd_cr} {j : Nat} (h : j ∈ gm_fl r) : r.2.2.2.1 = some j ∨ r.2.2.2.2.1 = some j := by
  unfold gm_fl at h
  rcases List.mem_append.mp h with h | h
  · exact Or.inl (Option.mem_toList.mp h)
  · exact Or.inr (Option.mem_toList.mp h)
theorem gr_fc_fl {R : Nat → pd_cr} {o1 o2 : Option Nat} : gr_fc R o1 o2 = (o1.toList ++ o2.toList).foldl (gm_G R) [] := by
  unfold gr_fc
  cases o1 <;> cases o2 <;> rfl
theorem gm_KB_add {n : Nat} {R : Nat → pd_cr} {cs : List Nat} {bi : Bool} {i : Nat} {o1 o2 : Option Nat} (hn2 : 2 ≤ n) (hn : n < 14) (hK : gm_K n R) (hB : gm_B n R) (hi : i < n) (hif : (R i).2.1 = false) (hbi : bi = true → i = 0) (h1 : ∀ j, o1 = some j → j < n ∧ (R j).2.1 = true) (h2 : ∀ j, o2 = some j → j < n ∧ (R j).2.1 = true) : gm_K (n + 1) (pd_fu R n (gr_row R n cs bi (some i) o1 o2)) ∧ gm_B (n + 1) (pd_fu R n (gr_row R n cs bi (some i) o1 o2)) := by
  have hR : ∀ j, j < n → pd_fu R n (gr_row R n cs bi (some i) o1 o2) j = R j := fun j hj => pd_fu_n (by omega)
  have hm : ∀ j ∈ (o1.toList ++ o2.toList), j < n ∧ (R j).2.1 = true := fun j hj => by
    rcases List.mem_append.mp hj with hj | hj
    · exact h1 j (Option.mem_toList.mp hj)
    · exact h2 j (Option.mem_toList.mp hj)
  constructor
  · intro k hk
    by_cases e : k = n
    · subst e
      rw [pd_fu_s]
      refine ⟨?_, fun j hj => ?_, fun j hj => ?_, fun z => by cases z⟩
      · show gr_fc R o1 o2 = (o1.toList ++ o2.toList).foldl _ []
        rw [gr_fc_fl, gm_fold_c _ _ (fun j hj => hR j (hm j hj).1)]
      · have z := hm j hj
        rw [hR j z.1]
        exact z
      · have hj : some i = some j := hj
        cases hj
        rw [hR i hi]
        exact ⟨hi, hif⟩
    · have hk : k < n := by omega
      obtain ⟨r1, r2, r3, r4⟩ := hK k hk
      rw [hR k hk]
      refine ⟨?_, fun j hj => ?_, fun j hj => ?_, r4⟩
      · rw [r1, gm_fold_c _ _ (fun j hj => hR j (by have := (r2 j hj).1; omega))]
      · have z := r2 j hj
        rw [hR j (by omega)]
        exact z
      · have z := r3 j hj
        rw [hR j (by omega)]
        exact z
  · obtain ⟨_, b2, b3⟩ := hB
    refine ⟨by omega, by rw [hR 0 (by omega)]; exact b2, fun k hk => ?_⟩
    by_cases e : k = n
    · subst e
      rw [pd_fu_s]
      refine ⟨?_, fun z => by rw [hbi z]; rfl, fun z => by omega⟩
      show gr_bits R k (some i) o1 o2 = gr_bits _ k (some i) o1 o2
      rw [gr_bits_c (fun j hj => hR j (by rcases hj with hj | hj | hj; cases hj; exact hi; exact (h1 j hj).1; exact (h2 j hj).1))]
    · have hk : k < n := by omega
      obtain ⟨r1, r2, r3, r4⟩ := hK k hk
      obtain ⟨s1, s2, s3⟩ := b3 k hk
      rw [hR k hk]
      refine ⟨?_, s2, s3⟩
      rw [s1, gr_bits_c (fun j hj => hR j (by rcases hj with hj | hj | hj; have := (r3 j hj).1; omega; have := (r2 j (gm_fl_o1 hj)).1; omega; have := (r2 j (gm_fl_o2 hj)).1; omega))]
theorem gr_pc_no {R : Nat → pd_cr} {o : Option Nat} {j : Nat} (h : ¬ gr_pc R o = true) (ho : o = some j) : (R j).2.1 = true := by
  subst ho
  unfold gr_pc at h
  simpa using h
theorem gm_KB_dc {n : Nat} {R : Nat → pd_cr} {cs : List Nat} {bi : Bool} {ff : Nat} (hn2 : 2 ≤ n) (hK : gm_K n R) (hB : gm_B n R) : gm_K (gr_dc n R cs bi ff).2.1 (gr_dc n R cs bi ff).2.2 ∧ gm_B (gr_dc n R cs bi ff).2.1 (gr_dc n R cs bi ff).2.2 := by
  unfold gr_dc
  split
  · exact ⟨hK, hB⟩
  · rename_i i hi
    by_cases hn : n < 14
    · rw [gr_cadd_y hn]
      cases hu : gr_up n R cs bi with
      | none => rw [hu] at hi; cases hi
      | some i2 =>
        rw [hu, gr_hd_s] at hi
        split at hi
        · cases hi
        · split at hi
          · cases hi
          · split at hi
            · cases hi
            · rename_i hno
              cases hi
              have hlt : i < n ∧ (bi = true → i = 0) := by
                unfold gr_up at hu
                split at hu
                · rename_i hb
                  exact ⟨gr_fi_lt hu, fun z => by rw [hb.1] at z; cases z⟩
                · cases hu
                  exact ⟨by omega, fun _ => rfl⟩
              exact gm_KB_add hn2 hn hK hB hlt.1 (by cases hq : (R i).2.1; rfl; exact absurd (Or.inl hq) hno) hlt.2 (fun j hj => ⟨gr_fi_lt hj, gr_pc_no (fun z => hno (Or.inr (Or.inl z))) hj⟩) (fun j hj => ⟨gr_fi_lt hj, gr_pc_no (fun z => hno (Or.inr (Or.inr (Or.inl z)))) hj⟩)
    · rw [gr_cadd_n hn]
      exact ⟨hK, hB⟩
theorem gm_V_k {k k2 u : Nat} {U : Nat → pd_rr} (h : gm_V k u U) (hk : k ≤ k2) : gm_V k2 u U := fun j hj => by
  obtain ⟨v1, v2, v3⟩ := h j hj
  exact ⟨fun z => by obtain ⟨b, b1, b2⟩ := v1 z; exact ⟨b, b1, by omega⟩, v2, v3⟩
theorem gm_V_add {k u : Nat} {U : Nat → pd_rr} {r : pd_rr} (h : gm_V k u U) (hr : (r.1 = 7 → ∃ b, r.2.2.2 = some b ∧ b < k) ∧ (¬ r.1 = 7 → r.2.2.2 = none) ∧ r.2.2.1 < 1000) : gm_V k (gr_radd u U r).2.1 (gr_radd u U r).2.2 := by
  unfold gr_radd
  split
  · intro j hj
    have hj : j < u + 1 := hj
    by_cases e : j = u
    · subst e
      show ((pd_fu U j r j).1 = 7 → _) ∧ _
      simp only [pd_fu_s]
      exact hr
    · show ((pd_fu U u r j).1 = 7 → _) ∧ _
      simp only [pd_fu_n e]
      exact h j (by omega)
  · exact h
theorem gr_dm_le {n : Nat} {R : Nat → pd_cr} {k : Nat} {M : Nat → pd_mr} {cs : List Nat} : k ≤ (gr_dm n R k M cs).2.1 := by
  unfold gr_dm
  split
  · exact Nat.le_refl _
  · split
    · exact Nat.le_refl _
    · split
      · exact Nat.le_refl _
      · exact gr_madd_le
theorem gm_V_dr {n : Nat} {R : Nat → pd_cr} {k : Nat} {M : Nat → pd_mr} {u : Nat} {U : Nat → pd_rr} {cs : List Nat} {v : Nat} (h : gm_V k u U) (hc : v = 6 → gr_cost (gr_w cs 2) = true) : gm_V k (gr_dr n R k M u U cs v).2.1 (gr_dr n R k M u U cs v).2.2 := by
  unfold gr_dr
  split
  · split
    · exact h
    · rename_i b hb
      split
      · exact gm_V_add h ⟨fun _ => ⟨b, rfl, gr_si_lt hb⟩, fun z => absurd (by assumption) z, by show 0 < 1000; decide⟩
      · exact h
  · rename_i hv
    refine gm_V_add h ⟨fun z => absurd z hv, fun _ => rfl, ?_⟩
    show (if v = 6 then gr_num (gr_w cs 2) else 0) < 1000
    split
    · exact gr_num_lt (hc (by assumption))
    · decide
def gm_IT (z : pd_st) : Prop := (2 ≤ z.2.1.1 ∧ gm_I z.2.1.1 z.2.1.2 z.2.2.1.1 z.2.2.2.1.1 z.2.2.2.1.2)
theorem gm_IT_do {cs : List Nat} {n : Nat} {R : Nat → pd_cr} {k : Nat} {M : Nat → pd_mr} {u : Nat} {U : Nat → pd_rr} {T : Nat → List Nat} {kp nx : Nat} {sp : Int64} {an gn sn dn : Nat} {v : Nat} (hv : v < 13) (hs : gr_said cs v = true) (h2 : 2 ≤ n) (hI : gm_I n R k u U) : gm_IT (gr_do cs n R k M u U T kp nx sp an gn sn dn v).2 := by
  obtain ⟨hK, hB, hV⟩ := hI
  rcases (show v = 0 ∨ v = 1 ∨ v = 2 ∨ v = 3 ∨ v = 4 ∨ v = 5 ∨ v = 6 ∨ v = 7 ∨ v = 8 ∨ v = 9 ∨ v = 10 ∨ v = 11 ∨ v = 12 by omega) with rfl | rfl | rfl | rfl | rfl | rfl | rfl | rfl | rfl | rfl | rfl | rfl | rfl
  · exact ⟨Nat.le_trans h2 gr_dc_le, (gm_KB_dc h2 hK hB).1, (gm_KB_dc h2 hK hB).2, hV⟩
  · exact ⟨Nat.le_trans h2 gr_dc_le, (gm_KB_dc h2 hK hB).1, (gm_KB_dc h2 hK hB).2, hV⟩
  · exact ⟨h2, hK, hB, gm_V_k hV gr_dm_le⟩
  · exact ⟨h2, hK, hB, gm_V_k hV gr_dm_le⟩
  · exact ⟨h2, hK, hB, gm_V_dr (v := 4) hV (fun z => by cases z)⟩
  · exact ⟨h2, hK, hB, gm_V_dr (v := 5) hV (fun z => by cases z)⟩
  · exact ⟨h2, hK, hB, gm_V_dr (v := 6) hV (fun z => (Bool.and_eq_true_iff.mp hs).2)⟩
  · exact ⟨h2, hK, hB, gm_V_dr (v := 7) hV (fun z => by cases z)⟩
  · exact ⟨h2, hK, hB, hV⟩
  · exact ⟨h2, hK, hB, hV⟩
  · exact ⟨h2, hK, hB, hV⟩
  · exact ⟨h2, hK, hB, hV⟩
  · exact ⟨h2, hK, hB, hV⟩
theorem gm_IT_line {cs : List Nat} {n : Nat} {R : Nat → pd_cr} {k : Nat} {M : Nat → pd_mr} {u : Nat} {U : Nat → pd_rr} {T : Nat → List Nat} {kp nx : Nat} {sp : Int64} {an gn sn dn : Nat} (h2 : 2 ≤ n) (hI : gm_I n R k u U) : gm_IT (gr_line cs n R k M u U T kp nx sp an gn sn dn).2 := by
  unfold gr_line
  split
  · exact ⟨h2, hI⟩
  · rename_i v hv
    split
    · rename_i hs
      exact gm_IT_do (gr_verb_lt hv) hs h2 hI
    · exact ⟨h2, hI⟩
theorem gm_IT_0 : gm_IT gr_z0 := by
  refine ⟨by decide, fun k hk => ?_, ⟨by decide, rfl, fun k hk => ?_⟩, fun j hj => absurd hj (Nat.not_lt_zero j)⟩
  · have hk : k < 2 := hk
    rcases (show k = 0 ∨ k = 1 by omega) with rfl | rfl
    · exact ⟨rfl, fun j hj => absurd (show j ∈ ([] : List Nat) from hj) List.not_mem_nil, fun j hj => absurd (show (none : Option Nat) = some j from hj) (by simp), fun _ => rfl⟩
    · exact ⟨rfl, fun j hj => absurd (show j ∈ ([] : List Nat) from hj) List.not_mem_nil, fun j hj => by have hj : some 0 = some j := hj; cases hj; exact ⟨by decide, rfl⟩, fun z => absurd (show some 0 = (none : Option Nat) from z) (by simp)⟩
  · have hk : k < 2 := hk
    rcases (show k = 0 ∨ k = 1 by omega) with rfl | rfl
    · exact ⟨rfl, fun z => absurd (show false = true from z) (by decide), fun _ => rfl⟩
    · exact ⟨rfl, fun z => absurd (show false = true from z) (by decide), fun z => absurd z (by decide)⟩
