/-! the order of a search -/
theorem al_fold_mem : ∀ (L od : List Nat) {z : Nat}, z ∈ L.foldl al_add od ↔ z ∈ od ∨ z ∈ L
  | [], od, z => by simp
  | y :: L, od, z => by
    rw [List.foldl_cons, al_fold_mem L (al_add od y)]
    have h : z ∈ al_add od y ↔ z ∈ od ∨ z = y := by
      unfold al_add
      split
      · rename_i hy
        exact ⟨Or.inl, fun h => h.elim id (fun e => by rw [e]; exact hy)⟩
      · simp
    rw [h, List.mem_cons, or_assoc]
theorem al_E1 {ks od : List Nat} {y : Nat} : (al_add ks y).foldl al_add od = al_add (ks.foldl al_add od) y := by
  by_cases h : y ∈ ks
  · rw [al_in h, al_in ((al_fold_mem ks od).mpr (Or.inr h))]
  · rw [al_out h, List.foldl_append]
    rfl
theorem al_E : ∀ (L ks od : List Nat), (L.foldl al_add ks).foldl al_add od = L.foldl al_add (ks.foldl al_add od)
  | [], _, _ => rfl
  | y :: L, ks, od => by
    rw [List.foldl_cons, al_E L, al_E1, List.foldl_cons]
/-- a face with all that it has -/
def gm_G (R : Nat → pd_cr) (od : List Nat) (x : Nat) : List Nat := (R x).2.2.2.2.2.2.foldl al_add (al_add od x)
theorem gm_G1 {R : Nat → pd_cr} : ∀ (L ks od : List Nat), (L.foldl (gm_G R) ks).foldl al_add od = L.foldl (gm_G R) (ks.foldl al_add od)
  | [], _, _ => rfl
  | y :: L, ks, od => by
    rw [List.foldl_cons, gm_G1 L, List.foldl_cons]
    congr 1
    unfold gm_G
    rw [al_E, al_E1]
theorem gm_G3 {R : Nat → pd_cr} : ∀ (L ks : List Nat) {z : Nat}, z ∈ L.foldl (gm_G R) ks ↔ z ∈ ks ∨ ∃ y ∈ L, z = y ∨ z ∈ (R y).2.2.2.2.2.2
  | [], _, _ => by simp
  | y :: L, ks, z => by
    rw [List.foldl_cons, gm_G3 L]
    unfold gm_G
    rw [al_fold_mem]
    have h : z ∈ al_add ks y ↔ z ∈ ks ∨ z = y := by
      have := al_fold_mem [y] ks (z := z)
      simpa using this
    rw [h]
    constructor
    · rintro (((a | a) | a) | ⟨w, hw, a⟩)
      · exact Or.inl a
      · exact Or.inr ⟨y, List.mem_cons_self, Or.inl a⟩
      · exact Or.inr ⟨y, List.mem_cons_self, Or.inr a⟩
      · exact Or.inr ⟨w, List.mem_cons_of_mem _ hw, a⟩
    · rintro (a | ⟨w, hw, a⟩)
      · exact Or.inl (Or.inl (Or.inl a))
      · rcases List.mem_cons.mp hw with e | hw
        · subst e
          rcases a with a | a
          · exact Or.inl (Or.inl (Or.inr a))
          · exact Or.inl (Or.inr a)
        · exact Or.inr ⟨w, hw, a⟩
theorem gr_fc_G {R : Nat → pd_cr} (o1 o2 : Option Nat) : gr_fc R o1 o2 = (o1.toList ++ o2.toList).foldl (gm_G R) [] := by
  cases o1 <;> cases o2 <;> rfl
/-- the rows hang together -/
def gm_K (n : Nat) (R : Nat → pd_cr) : Prop := ∀ k, k < n → (R k).2.2.2.2.2.2 = (gm_fl (R k)).foldl (gm_G R) [] ∧ (∀ j ∈ gm_fl (R k), j < k ∧ (R j).2.1 = true) ∧ (∀ j, (R k).2.2.1 = some j → j < k ∧ (R j).2.1 = false) ∧ ((R k).2.2.1 = none → k = 0)
theorem gm_G2 {n : Nat} {R : Nat → pd_cr} {x : Nat} (hK : gm_K n R) (hx : x < n) (od : List Nat) : (R x).2.2.2.2.2.2.foldl al_add od = (gm_fl (R x)).foldl (gm_G R) od := by
  rw [(hK x hx).1, gm_G1]
  rfl
theorem gm_G4 {n : Nat} {R : Nat → pd_cr} {x z : Nat} (hK : gm_K n R) (hx : x < n) : z ∈ (R x).2.2.2.2.2.2 ↔ ∃ y ∈ gm_fl (R x), z = y ∨ z ∈ (R y).2.2.2.2.2.2 := by
  rw [(hK x hx).1, gm_G3]
  simp
/-- what is ordered has its faces there, or they stand on the stack above it -/
def gm_J (R : Nat → pd_cr) (st od : List Nat) : Prop := ∀ z ∈ od, (R z).2.1 = true → ∃ a b, st = a ++ b ∧ (∀ y ∈ a, y < z) ∧ ∀ w ∈ (R z).2.2.2.2.2.2, w ∈ od ∨ ∃ y ∈ a, w = y ∨ w ∈ (R y).2.2.2.2.2.2
theorem gm_J_in {R : Nat → pd_cr} {st od : List Nat} {x : Nat} (h : gm_J R (x :: st) od) (hx : x ∈ od) (hi : (R x).2.1 = true) : ∀ w ∈ (R x).2.2.2.2.2.2, w ∈ od := by
  obtain ⟨a, b, h1, h2, h3⟩ := h x hx hi
  cases a with
  | nil =>
    intro w hw
    rcases h3 w hw with z | ⟨y, hy, _⟩
    · exact z
    · cases hy
  | cons y a =>
    have e : x = y := (List.cons.inj h1).1
    exact absurd (h2 y List.mem_cons_self) (by omega)
theorem al_fold_in : ∀ (L od : List Nat), (∀ w ∈ L, w ∈ od) → L.foldl al_add od = od
  | [], _, _ => rfl
  | y :: L, od, h => by
    rw [List.foldl_cons, al_in (h y List.mem_cons_self)]
    exact al_fold_in L od (fun w hw => h w (List.mem_cons_of_mem _ hw))
theorem gm_J_skip {R : Nat → pd_cr} {st od : List Nat} {x : Nat} (h : gm_J R (x :: st) od) (hx : x ∈ od) (hi : (R x).2.1 = true) : gm_J R st od ∧ gm_G R od x = od := by
  have hF := gm_J_in h hx hi
  refine ⟨fun z hz hzi => ?_, ?_⟩
  · obtain ⟨a, b, h1, h2, h3⟩ := h z hz hzi
    cases a with
    | nil =>
      refine ⟨[], st, rfl, (fun y hy => by cases hy), fun w hw => ?_⟩
      rcases h3 w hw with c | ⟨y, hy, _⟩
      · exact Or.inl c
      · cases hy
    | cons y a =>
      have e := List.cons.inj h1
      refine ⟨a, b, e.2, fun v hv => h2 v (List.mem_cons_of_mem _ hv), fun w hw => ?_⟩
      rcases h3 w hw with c | ⟨v, hv, c⟩
      · exact Or.inl c
      · rcases List.mem_cons.mp hv with e2 | hv
        · subst e2
          rw [← e.1] at c
          rcases c with c | c
          · rw [c]; exact Or.inl hx
          · exact Or.inl (hF w c)
        · exact Or.inr ⟨v, hv, c⟩
  · unfold gm_G
    rw [al_in hx, al_fold_in _ _ hF]
theorem gm_J_order {n : Nat} {R : Nat → pd_cr} {st od : List Nat} {x : Nat} (hK : gm_K n R) (hn : x < n) (h : gm_J R (x :: st) od) (hx : x ∉ od) : gm_J R (gm_fl (R x) ++ st) (od ++ [x]) ∧ gm_G R od x = (gm_fl (R x)).foldl (gm_G R) (od ++ [x]) := by
  refine ⟨fun z hz hzi => ?_, ?_⟩
  · rcases List.mem_append.mp hz with hz | hz
    · obtain ⟨a, b, h1, h2, h3⟩ := h z hz hzi
      cases a with
      | nil =>
        refine ⟨[], gm_fl (R x) ++ st, rfl, (fun y hy => by cases hy), fun w hw => ?_⟩
        rcases h3 w hw with c | ⟨y, hy, _⟩
        · exact Or.inl (List.mem_append.mpr (Or.inl c))
        · cases hy
      | cons y a =>
        have e := List.cons.inj h1
        have hxz : x < z := by rw [e.1]; exact h2 y List.mem_cons_self
        refine ⟨gm_fl (R x) ++ a, b, (by rw [e.2, List.append_assoc]; rfl), fun v hv => ?_, fun w hw => ?_⟩
        · rcases List.mem_append.mp hv with hv | hv
          · have := ((hK x hn).2.1 v hv).1
            omega
          · exact h2 v (List.mem_cons_of_mem _ hv)
        · rcases h3 w hw with c | ⟨v, hv, c⟩
          · exact Or.inl (List.mem_append.mpr (Or.inl c))
          · rcases List.mem_cons.mp hv with e2 | hv
            · subst e2
              rw [← e.1] at c
              rcases c with c | c
              · rw [c]; exact Or.inl (List.mem_append.mpr (Or.inr List.mem_cons_self))
              · obtain ⟨v2, hv2, c2⟩ := (gm_G4 hK hn).mp c
                exact Or.inr ⟨v2, List.mem_append.mpr (Or.inl hv2), c2⟩
            · exact Or.inr ⟨v, List.mem_append.mpr (Or.inr hv), c⟩
    · have e : z = x := List.mem_singleton.mp hz
      subst e
      exact ⟨gm_fl (R z), st, rfl, fun y hy => ((hK z hn).2.1 y hy).1, fun w hw => Or.inr ((gm_G4 hK hn).mp hw)⟩
  · unfold gm_G
    rw [al_out hx]
    exact gm_G2 hK hn _
