/-! the bits say what the reference finds below -/
theorem bt_sm : ∀ d, d < 14 → ((nI d &&& 31).toBitVec.smod 32).toNat = d := by decide +kernel
theorem bt_one : ∀ n, n < 14 → ∀ d, d < 14 → (nI 1 <<< (nI n &&& 31)).toBitVec.getLsbD d = decide (d = n) := by decide +kernel
theorem bt_d {b : Int32} {d : Nat} (hd : d < 14) : decide ((b >>> (nI d &&& 31)) &&& nI 1 = nI 1) = b.toBitVec.getLsbD d := by
  have h1 : (b >>> (nI d &&& 31)).toBitVec.getLsbD 0 = b.toBitVec.getLsbD d := by
    rw [Int32.toBitVec_shiftRight, BitVec.sshiftRight_eq', bt_sm d hd, BitVec.getLsbD_sshiftRight, if_pos (by omega), Nat.add_zero]
    simp
  rw [← h1, pk_and _ 1 (by decide)]
  have h2 : (b >>> (nI d &&& 31)).toBitVec.getLsbD 0 = decide ((b >>> (nI d &&& 31)).toBitVec.toNat % 2 = 1) := by
    rw [BitVec.getLsbD, Nat.testBit_zero]
  rw [h2]
  have h3 : (b >>> (nI d &&& 31)).toBitVec.toNat % 2 ^ 1 = (b >>> (nI d &&& 31)).toBitVec.toNat % 2 := rfl
  rw [h3]
  have h4 : (b >>> (nI d &&& 31)).toBitVec.toNat % 2 < 2 := Nat.mod_lt _ (by decide)
  exact decide_eq_decide.mpr (nI_eq (by omega) (by decide))
def gm_set (R : Nat → pd_cr) (f : Nat) (o : Option Nat) (d : Nat) : Prop := ∃ z ∈ gm_ch R f o, d = z ∨ d ∈ (R z).2.2.2.2.2.2
theorem gm_F_mem {R : Nat → pd_cr} {d : Nat} : ∀ (L od : List Nat), d ∈ L.foldl (gm_F R) od ↔ d ∈ od ∨ ∃ z ∈ L, d ∈ (R z).2.2.2.2.2.2
  | [], od => by simp
  | y :: L, od => by
    rw [List.foldl_cons, gm_F_mem L]
    unfold gm_F
    rw [al_fold_mem]
    constructor
    · rintro ((a | a) | ⟨z, hz, a⟩)
      · exact Or.inl a
      · exact Or.inr ⟨y, List.mem_cons_self, a⟩
      · exact Or.inr ⟨z, List.mem_cons_of_mem _ hz, a⟩
    · rintro (a | ⟨z, hz, a⟩)
      · exact Or.inl (Or.inl a)
      · rcases List.mem_cons.mp hz with e | e
        · subst e; exact Or.inl (Or.inr a)
        · exact Or.inr ⟨z, e, a⟩
theorem gm_all_mem {R : Nat → pd_cr} {x d : Nat} : d ∈ gm_all R x ↔ gm_set R 14 (some x) d := by
  unfold gm_all gm_set
  rw [gm_F_mem, al_fold_mem]
  constructor
  · rintro ((a | a) | ⟨z, hz, a⟩)
    · cases a
    · exact ⟨d, a, Or.inl rfl⟩
    · exact ⟨z, hz, Or.inr a⟩
  · rintro ⟨z, hz, a | a⟩
    · subst a; exact Or.inl (Or.inr hz)
    · exact Or.inr ⟨z, hz, a⟩
theorem gm_set_s {R : Nat → pd_cr} {f x d : Nat} (h : x < f) : gm_set R f (some x) d ↔ (d = x ∨ d ∈ (R x).2.2.2.2.2.2) ∨ gm_set R (f - 1) (R x).2.2.1 d := by
  unfold gm_set
  rw [gm_ch_s h]
  constructor
  · rintro ⟨z, hz, a⟩
    rcases List.mem_cons.mp hz with e | e
    · subst e; exact Or.inl a
    · exact Or.inr ⟨z, e, a⟩
  · rintro (a | ⟨z, hz, a⟩)
    · exact ⟨x, List.mem_cons_self, a⟩
    · exact ⟨z, List.mem_cons_of_mem _ hz, a⟩
theorem gm_set_0 {R : Nat → pd_cr} {f d : Nat} : ¬ gm_set R f none d := by
  unfold gm_set
  rw [gm_ch_0]
  rintro ⟨z, hz, _⟩
  cases hz
theorem gm_ch_fu {n : Nat} {R : Nat → pd_cr} (hK : gm_K n R) : ∀ x, x < n → ∀ f f2, x < f → x < f2 → gm_ch R f (some x) = gm_ch R f2 (some x) := by
  intro x
  induction x using Nat.strongRecOn with
  | ind x ih =>
    intro hx f f2 h1 h2
    rw [gm_ch_s h1, gm_ch_s h2]
    congr 1
    cases e : (R x).2.2.1 with
    | none => rw [gm_ch_0, gm_ch_0]
    | some j =>
      have hj := ((hK x hx).2.2.1 j e).1
      exact ih j hj (by omega) _ _ (by omega) (by omega)
/-- the rows' bits, and what an INTERFACE has above it -/
def gm_B (n : Nat) (R : Nat → pd_cr) : Prop := n ≤ 14 ∧ gm_fl (R 0) = [] ∧ ∀ k, k < n → (R k).2.2.2.2.2.1 = gr_bits R k (R k).2.2.1 (R k).2.2.2.1 (R k).2.2.2.2.1 ∧ ((R k).2.1 = true → (R k).2.2.1 = some 0) ∧ (k = 0 → (R k).2.2.1 = none)
theorem gr_bt_d {R : Nat → pd_cr} {o : Option Nat} {d : Nat} : (gr_bt R o).toBitVec.getLsbD d = true ↔ ∃ j, o = some j ∧ (R j).2.2.2.2.2.1.toBitVec.getLsbD d = true := by
  cases o with
  | none =>
    constructor
    · intro h
      simp [gr_bt] at h
    · rintro ⟨j, h, _⟩
      cases h
  | some j =>
    constructor
    · intro h
      exact ⟨j, rfl, h⟩
    · rintro ⟨i, h, h2⟩
      cases h
      exact h2
theorem gm_bits {n : Nat} {R : Nat → pd_cr} (hK : gm_K n R) (hB : gm_B n R) : ∀ x, x < n → ∀ d, d < 14 → ((R x).2.2.2.2.2.1.toBitVec.getLsbD d = true ↔ d = 0 ∨ gm_set R 14 (some x) d) := by
  obtain ⟨hn, h00, hB⟩ := hB
  intro x
  induction x using Nat.strongRecOn with
  | ind x ih =>
    intro hx d hd
    have hF0 : ∀ w, w ∈ (R 0).2.2.2.2.2.2 → False := fun w hw => by
      obtain ⟨y, hy, _⟩ := (gm_G4 hK (by omega)).mp hw
      rw [h00] at hy
      cases hy
    have hset0 : ∀ f, gm_set R f (some 0) d → d = 0 := by
      intro f hf
      cases f with
      | zero => obtain ⟨z, hz, _⟩ := hf; cases hz
      | succ f =>
        rcases (gm_set_s (by omega)).mp hf with (a | a) | a
        · exact a
        · exact absurd a (hF0 d)
        · rw [(hB 0 (by omega)).2.2 rfl] at a
          exact absurd a gm_set_0
    have hface : ∀ y, y ∈ gm_fl (R x) → ((R y).2.2.2.2.2.1.toBitVec.getLsbD d = true ↔ d = 0 ∨ d = y ∨ d ∈ (R y).2.2.2.2.2.2) := by
      intro y hy
      have hyx := (hK x hx).2.1 y hy
      rw [ih y hyx.1 (by omega) d hd, gm_set_s (by omega), (hB y (by omega)).2.1 hyx.2]
      constructor
      · rintro (a | (a | a) | a)
        · exact Or.inl a
        · exact Or.inr (Or.inl a)
        · exact Or.inr (Or.inr a)
        · exact Or.inl (hset0 _ a)
      · rintro (a | a | a)
        · exact Or.inl a
        · exact Or.inr (Or.inl (Or.inl a))
        · exact Or.inr (Or.inl (Or.inr a))
    have hmem : ∀ o y, (o = (R x).2.2.2.1 ∨ o = (R x).2.2.2.2.1) → o = some y → y ∈ gm_fl (R x) := by
      intro o y ho e
      unfold gm_fl
      rcases ho with ho | ho
      · rw [← ho, e]; simp
      · rw [← ho, e]; simp
    rw [(hB x hx).1]
    unfold gr_bits
    rw [Int32.toBitVec_or, BitVec.getLsbD_or, Int32.toBitVec_or, BitVec.getLsbD_or, Int32.toBitVec_or, BitVec.getLsbD_or, bt_one x (by omega) d hd]
    rw [Bool.or_eq_true_iff, Bool.or_eq_true_iff, Bool.or_eq_true_iff, gr_bt_d, gr_bt_d, gr_bt_d, gm_set_s (by omega), decide_eq_true_iff]
    constructor
    · rintro (((a | ⟨j, e, a⟩) | ⟨j, e, a⟩) | ⟨j, e, a⟩)
      · exact Or.inr (Or.inl (Or.inl a))
      · have hj := ((hK x hx).2.2.1 j e).1
        rcases (ih j hj (by omega) d hd).mp a with b | b
        · exact Or.inl b
        · right; right
          rw [e]
          unfold gm_set at b ⊢
          rw [gm_ch_fu hK j (by omega) (14 - 1) 14 (by omega) (by omega)]
          exact b
      · have hy := hmem _ j (Or.inl rfl) e
        rcases (hface j hy).mp a with b | b
        · exact Or.inl b
        · exact Or.inr (Or.inl (Or.inr ((gm_G4 hK hx).mpr ⟨j, hy, b⟩)))
      · have hy := hmem _ j (Or.inr rfl) e
        rcases (hface j hy).mp a with b | b
        · exact Or.inl b
        · exact Or.inr (Or.inl (Or.inr ((gm_G4 hK hx).mpr ⟨j, hy, b⟩)))
    · rintro (a | (a | a) | a)
      · by_cases hx0 : x = 0
        · exact Or.inl (Or.inl (Or.inl (by omega)))
        · cases e : (R x).2.2.1 with
          | none => exact absurd ((hK x hx).2.2.2 e) hx0
          | some j =>
            have hj := ((hK x hx).2.2.1 j e).1
            exact Or.inl (Or.inl (Or.inr ⟨j, rfl, (ih j hj (by omega) d hd).mpr (Or.inl a)⟩))
      · exact Or.inl (Or.inl (Or.inl a))
      · obtain ⟨y, hy, b⟩ := (gm_G4 hK hx).mp a
        have hb := (hface y hy).mpr (Or.inr b)
        have hy2 : (R x).2.2.2.1 = some y ∨ (R x).2.2.2.2.1 = some y := by
          unfold gm_fl at hy
          rcases List.mem_append.mp hy with c | c
          · left; simpa using c
          · right; simpa using c
        rcases hy2 with c | c
        · exact Or.inl (Or.inr ⟨y, c, hb⟩)
        · exact Or.inr ⟨y, c, hb⟩
      · cases e : (R x).2.2.1 with
        | none => rw [e] at a; exact absurd a gm_set_0
        | some j =>
          rw [e] at a
          have hj := ((hK x hx).2.2.1 j e).1
          refine Or.inl (Or.inl (Or.inr ⟨j, rfl, (ih j hj (by omega) d hd).mpr (Or.inr ?_)⟩))
          unfold gm_set at a ⊢
          rw [gm_ch_fu hK j (by omega) 14 (14 - 1) (by omega) (by omega)]
          exact a
theorem gm_bel_eq {n : Nat} {R : Nat → pd_cr} (hK : gm_K n R) (hB : gm_B n R) {x d : Nat} (hx : x < n) (hd : d < n) : gm_bel R x d = gr_bel R x d := by
  unfold gr_bel gm_bel
  have hn := hB.1
  rw [bt_d (by omega)]
  have := gm_bits hK hB x hx d (by omega)
  rw [← gm_all_mem] at this
  cases e : (R x).2.2.2.2.2.1.toBitVec.getLsbD d with
  | true => exact decide_eq_true (this.mp e)
  | false => exact decide_eq_false (fun z => by rw [this.mpr z] at e; cases e)
