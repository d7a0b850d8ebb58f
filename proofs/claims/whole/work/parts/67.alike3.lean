/-! the two grammars are alike: PATTERNS -/
theorem tx_sub1 {cs : List Nat} {a : Nat} (h : a + 1 ≤ cs.length) : tx_sub cs a (a + 1) = [cs.getD a 0] := by
  rw [tx_sub_s (Nat.le_refl a) (by omega), tx_sub_0 (Nat.le_refl a)]
  rfl
theorem tx_sub2 {cs : List Nat} {a : Nat} (h : a + 2 ≤ cs.length) : tx_sub cs a (a + 2) = [cs.getD a 0, cs.getD (a + 1) 0] := by
  rw [show a + 2 = (a + 1) + 1 by omega, tx_sub_s (by omega) (by omega), tx_sub1 (by omega)]
  rfl
theorem tx_sub3 {cs : List Nat} {a : Nat} (h : a + 3 ≤ cs.length) : tx_sub cs a (a + 3) = [cs.getD a 0, cs.getD (a + 1) 0, cs.getD (a + 2) 0] := by
  rw [show a + 3 = (a + 2) + 1 by omega, tx_sub_s (by omega) (by omega), tx_sub2 (by omega)]
  rfl
theorem tx_sub_drop {cs : List Nat} {x k a : Nat} (hk : k ≤ cs.length) (hx : x ≤ k) : (tx_sub cs x k).drop a = tx_sub cs (x + a) k := by
  rw [← tx_sub_end, tx_sub_sub hk (by rw [tx_sub_len hk]; omega) hx, tx_sub_len hk, show x + (k - x) = k by omega]
theorem tx_is1 {cs : List Nat} {a b c : Nat} (hb : b ≤ cs.length) : tx_sub cs a b = [c] ↔ b = a + 1 ∧ cs.getD a 0 = c := by
  constructor
  · intro z
    have hl := congrArg List.length z
    rw [tx_sub_len hb] at hl
    have hl : b - a = 1 := hl
    have hb2 : b = a + 1 := by omega
    subst hb2
    rw [tx_sub1 hb] at z
    exact ⟨rfl, (List.cons.inj z).1⟩
  · rintro ⟨rfl, h⟩
    rw [tx_sub1 hb, h]
theorem gr_eq2 {cs : List Nat} {x k : Nat} (hk : k ≤ cs.length) : tx_sub cs x k = [42, 42] ↔ k = x + 2 ∧ cs.getD x 0 = 42 ∧ cs.getD (x + 1) 0 = 42 := by
  constructor
  · intro z
    have hl := congrArg List.length z
    rw [tx_sub_len hk] at hl
    have hl : k - x = 2 := hl
    have hk2 : k = x + 2 := by omega
    subst hk2
    rw [tx_sub2 hk] at z
    have z1 := List.cons.inj z
    exact ⟨rfl, z1.1, (List.cons.inj z1.2).1⟩
  · rintro ⟨rfl, h1, h2⟩
    rw [tx_sub2 hk, h1, h2]
theorem gr_ew3 {cs : List Nat} {x k : Nat} (hk : k ≤ cs.length) (hx : x ≤ k) : gr_ew (tx_sub cs x k) [47, 42, 42] = true ↔ x + 3 ≤ k ∧ cs.getD (k - 3) 0 = 47 ∧ cs.getD (k - 2) 0 = 42 ∧ cs.getD (k - 1) 0 = 42 := by
  unfold gr_ew
  rw [decide_eq_true_iff, tx_sub_len hk]
  show (3 ≤ k - x ∧ (tx_sub cs x k).drop (k - x - 3) = _) ↔ _
  constructor
  · rintro ⟨h1, h2⟩
    obtain ⟨d, rfl⟩ : ∃ d, k = x + d + 3 := ⟨k - x - 3, by omega⟩
    rw [tx_sub_drop hk hx, show x + (x + d + 3 - x - 3) = x + d by omega, tx_sub3 hk] at h2
    have z1 := List.cons.inj h2
    have z2 := List.cons.inj z1.2
    have z3 := List.cons.inj z2.2
    exact ⟨by omega, z1.1, z2.1, z3.1⟩
  · rintro ⟨h1, h2, h3, h4⟩
    obtain ⟨d, rfl⟩ : ∃ d, k = x + d + 3 := ⟨k - x - 3, by omega⟩
    refine ⟨by omega, ?_⟩
    rw [tx_sub_drop hk hx, show x + (x + d + 3 - x - 3) = x + d by omega, tx_sub3 hk]
    have h2 : cs.getD (x + d) 0 = 47 := h2
    have h3 : cs.getD (x + d + 1) 0 = 42 := h3
    have h4 : cs.getD (x + d + 2) 0 = 42 := h4
    rw [h2, h3, h4]
theorem gr_ew2 {cs : List Nat} {x k : Nat} (hk : k ≤ cs.length) (hx : x ≤ k) : gr_ew (tx_sub cs x k) [47, 42] = true ↔ x + 2 ≤ k ∧ cs.getD (k - 2) 0 = 47 ∧ cs.getD (k - 1) 0 = 42 := by
  unfold gr_ew
  rw [decide_eq_true_iff, tx_sub_len hk]
  show (2 ≤ k - x ∧ (tx_sub cs x k).drop (k - x - 2) = _) ↔ _
  constructor
  · rintro ⟨h1, h2⟩
    obtain ⟨d, rfl⟩ : ∃ d, k = x + d + 2 := ⟨k - x - 2, by omega⟩
    rw [tx_sub_drop hk hx, show x + (x + d + 2 - x - 2) = x + d by omega, tx_sub2 hk] at h2
    have z1 := List.cons.inj h2
    have z2 := List.cons.inj z1.2
    exact ⟨by omega, z1.1, z2.1⟩
  · rintro ⟨h1, h2, h3⟩
    obtain ⟨d, rfl⟩ : ∃ d, k = x + d + 2 := ⟨k - x - 2, by omega⟩
    refine ⟨by omega, ?_⟩
    rw [tx_sub_drop hk hx, show x + (x + d + 2 - x - 2) = x + d by omega, tx_sub2 hk]
    have h2 : cs.getD (x + d) 0 = 47 := h2
    have h3 : cs.getD (x + d + 1) 0 = 42 := h3
    rw [h2, h3]
/-- a head that is one: its kind, where its name ends, its end -/
def gm_hd (cs : List Nat) (x k kd ne : Nat) : Prop := x ≤ ne ∧ ne ≤ k ∧ ne - x ≤ 24 ∧ (∀ j, x ≤ j → j < k → ¬ cs.getD j 0 = 46) ∧ kd = 3 - gr_reach (tx_sub cs x k) ∧ gr_pnm (tx_sub cs x k) (gr_reach (tx_sub cs x k)) = tx_sub cs x ne ∧ (gr_reach (tx_sub cs x k) = 0 ∨ gr_name (tx_sub cs x ne) = true)
theorem gm_ph_1 {cs : List Nat} {x to kd ne k : Nat} (hx : x < to) (hto : to ≤ cs.length) (h : gm_ph cs x to = some (kd, ne, k)) : gm_hd cs x k kd ne ∧ k ≤ to := by
  unfold gm_ph at h
  split at h
  · rename_i z
    have h := Option.some.inj h
    have h1 := congrArg Prod.fst h
    have h2 := congrArg (fun q => q.2.1) h
    have h3 := congrArg (fun q => q.2.2) h
    have h1 : 3 = kd := h1
    have h2 : x = ne := h2
    have h3 : x + 2 = k := h3
    subst h1 h2 h3
    have hr : gr_reach (tx_sub cs x (x + 2)) = 0 := by
      unfold gr_reach
      rw [if_pos ((gr_eq2 (by omega)).mpr ⟨rfl, z.2⟩)]
    refine ⟨⟨by omega, by omega, by omega, fun j h1 h2 => ?_, ?_, ?_, Or.inl hr⟩, by omega⟩
    · rcases (show j = x ∨ j = x + 1 by omega) with e | e <;> rw [e]
      · rw [z.2.1]
        decide
      · rw [z.2.2]
        decide
    · rw [hr]
    · rw [hr, tx_sub_0 (Nat.le_refl x)]
      rfl
  · split at h
    · cases h
    · rename_i z0 z1
      have hl := gm_name_le (cs := cs) (x := x) (to := to) (by omega)
      have hlt : x < gm_name cs x to := by omega
      have hn := gm_name_t (by omega) hto hlt
      have h24 := gm_name24 hn
      rw [tx_sub_len (by omega)] at h24
      have h46 := gr_name_no (cs := cs) (d := 46) (by omega) hn (by decide) (by decide)
      have h42 := gr_name_no (cs := cs) (d := 42) (by omega) hn (by decide) (by decide)
      generalize gm_name cs x to = e at h z1 hl hlt hn h24 h46 h42
      split at h
      · rename_i z2
        split at h
        · rename_i z3
          have h := Option.some.inj h
          have h1 : 2 = kd := congrArg Prod.fst h
          have h2 : e = ne := congrArg (fun q => q.2.1) h
          have h3 : e + 3 = k := congrArg (fun q => q.2.2) h
          subst h1 h2 h3
          have hr : gr_reach (tx_sub cs x (e + 3)) = 1 := by
            unfold gr_reach
            rw [if_neg (fun y => by have := (gr_eq2 (by omega)).mp y; omega), if_pos ((gr_ew3 (by omega) (by omega)).mpr ⟨by omega, z2.2.1, z2.2.2, z3.2⟩)]
          refine ⟨⟨by omega, by omega, by omega, fun j h1 h2 => ?_, ?_, ?_, Or.inr hn⟩, by omega⟩
          · by_cases q : j < e
            · exact h46 j h1 q
            · rcases (show j = e ∨ j = e + 1 ∨ j = e + 2 by omega) with q | q | q <;> rw [q]
              · rw [z2.2.1]
                decide
              · rw [z2.2.2]
                decide
              · rw [z3.2]
                decide
          · rw [hr]
          · rw [hr]
            show tx_sub _ 0 _ = _
            rw [tx_sub_len (by omega), tx_sub_sub (by omega) (by omega) (by omega), Nat.add_zero, show x + (e + 3 - x - 3) = e by omega]
        · rename_i z3
          have h := Option.some.inj h
          have h1 : 1 = kd := congrArg Prod.fst h
          have h2 : e = ne := congrArg (fun q => q.2.1) h
          have h3 : e + 2 = k := congrArg (fun q => q.2.2) h
          subst h1 h2 h3
          have hr : gr_reach (tx_sub cs x (e + 2)) = 2 := by
            unfold gr_reach
            rw [if_neg (fun y => by have := (gr_eq2 (by omega)).mp y; omega), if_neg (fun y => by have y2 := ((gr_ew3 (by omega) (by omega)).mp y).2.2.1; have y2 : cs.getD e 0 = 42 := y2; rw [z2.2.1] at y2; cases y2), if_pos ((gr_ew2 (by omega) (by omega)).mpr ⟨by omega, z2.2.1, z2.2.2⟩)]
          refine ⟨⟨by omega, by omega, by omega, fun j h1 h2 => ?_, ?_, ?_, Or.inr hn⟩, by omega⟩
          · by_cases q : j < e
            · exact h46 j h1 q
            · rcases (show j = e ∨ j = e + 1 by omega) with q | q <;> rw [q]
              · rw [z2.2.1]
                decide
              · rw [z2.2.2]
                decide
          · rw [hr]
          · rw [hr]
            show tx_sub _ 0 _ = _
            rw [tx_sub_len (by omega), tx_sub_sub (by omega) (by omega) (by omega), Nat.add_zero, show x + (e + 2 - x - 2) = e by omega]
      · have h := Option.some.inj h
        have h1 : 0 = kd := congrArg Prod.fst h
        have h2 : e = ne := congrArg (fun q => q.2.1) h
        have h3 : e = k := congrArg (fun q => q.2.2) h
        subst h1 h2
        subst h3
        have hr : gr_reach (tx_sub cs x e) = 3 := by
          unfold gr_reach
          rw [if_neg (fun y => h42 x (by omega) (by omega) ((gr_eq2 (by omega)).mp y).2.1), if_neg (fun y => h42 (e - 1) (by omega) (by omega) ((gr_ew3 (by omega) (by omega)).mp y).2.2.2), if_neg (fun y => h42 (e - 1) (by omega) (by omega) ((gr_ew2 (by omega) (by omega)).mp y).2.2)]
        refine ⟨⟨by omega, by omega, by omega, h46, ?_, ?_, Or.inr hn⟩, by omega⟩
        · rw [hr]
        · rw [hr]
          rfl
theorem gm_ph_2 {cs : List Nat} {x to k : Nat} (hto : to ≤ cs.length) (hk : x ≤ k) (hkt : k ≤ to) (hs : k = to ∨ cs.getD k 0 = 46) (hv : gr_reach (tx_sub cs x k) = 0 ∨ gr_name (gr_pnm (tx_sub cs x k) (gr_reach (tx_sub cs x k))) = true) : ∃ kd ne, gm_ph cs x to = some (kd, ne, k) := by
  unfold gm_ph
  by_cases e2 : tx_sub cs x k = [42, 42]
  · obtain ⟨h1, h2, h3⟩ := (gr_eq2 (by omega)).mp e2
    rw [if_pos ⟨by omega, h2, h3⟩]
    exact ⟨3, x, by rw [h1]⟩
  · by_cases e3 : gr_ew (tx_sub cs x k) [47, 42, 42] = true
    · have hr : gr_reach (tx_sub cs x k) = 1 := by
        unfold gr_reach
        rw [if_neg e2, if_pos e3]
      rw [hr] at hv
      obtain ⟨h1, h2, h3, h4⟩ := (gr_ew3 (by omega) hk).mp e3
      have hn := hv.resolve_left (by decide)
      have hn : gr_name (tx_sub (tx_sub cs x k) 0 ((tx_sub cs x k).length - 3)) = true := hn
      rw [tx_sub_len (by omega), tx_sub_sub (by omega) (by omega) (by omega), Nat.add_zero, show x + (k - x - 3) = k - 3 by omega] at hn
      obtain ⟨n1, n2⟩ := gm_name_y (cs := cs) (x := x) (to := to) (i := k - 3) (by omega) (by omega) hto (Or.inr ⟨by rw [h2]; decide, fun _ => Or.inr (by rw [show k - 3 + 1 = k - 2 by omega, h3]; decide)⟩) hn
      rw [if_neg (fun z => gr_name_no (cs := cs) (d := 42) (by omega) hn (by decide) (by decide) x (by omega) (by omega) z.2.1), n1, if_neg (by omega), if_pos ⟨by omega, h2, by rw [show k - 3 + 1 = k - 2 by omega]; exact h3⟩, if_pos ⟨by omega, by rw [show k - 3 + 2 = k - 1 by omega]; exact h4⟩]
      exact ⟨2, k - 3, by rw [show k - 3 + 3 = k by omega]⟩
    · by_cases e4 : gr_ew (tx_sub cs x k) [47, 42] = true
      · have hr : gr_reach (tx_sub cs x k) = 2 := by
          unfold gr_reach
          rw [if_neg e2, if_neg e3, if_pos e4]
        rw [hr] at hv
        obtain ⟨h1, h2, h3⟩ := (gr_ew2 (by omega) hk).mp e4
        have hn := hv.resolve_left (by decide)
        have hn : gr_name (tx_sub (tx_sub cs x k) 0 ((tx_sub cs x k).length - 2)) = true := hn
        rw [tx_sub_len (by omega), tx_sub_sub (by omega) (by omega) (by omega), Nat.add_zero, show x + (k - x - 2) = k - 2 by omega] at hn
        obtain ⟨n1, n2⟩ := gm_name_y (cs := cs) (x := x) (to := to) (i := k - 2) (by omega) (by omega) hto (Or.inr ⟨by rw [h2]; decide, fun _ => Or.inr (by rw [show k - 2 + 1 = k - 1 by omega, h3]; decide)⟩) hn
        rw [if_neg (fun z => gr_name_no (cs := cs) (d := 42) (by omega) hn (by decide) (by decide) x (by omega) (by omega) z.2.1), n1, if_neg (by omega), if_pos ⟨by omega, h2, by rw [show k - 2 + 1 = k - 1 by omega]; exact h3⟩, if_neg (fun z => by rw [show k - 2 + 2 = k by omega] at z; rcases hs with y | y; omega; rw [y] at z; cases z.2)]
        exact ⟨1, k - 2, by rw [show k - 2 + 2 = k by omega]⟩
      · have hr : gr_reach (tx_sub cs x k) = 3 := by
          unfold gr_reach
          rw [if_neg e2, if_neg e3, if_neg e4]
        rw [hr] at hv
        have hn : gr_name (tx_sub cs x k) = true := hv.resolve_left (by decide)
        obtain ⟨n1, n2⟩ := gm_name_y (cs := cs) (x := x) (to := to) (i := k) hk hkt hto (hs.imp id (fun y => ⟨by rw [y]; decide, fun z => by rw [y] at z; cases z⟩)) hn
        rw [if_neg (fun z => gr_name_no (cs := cs) (d := 42) (by omega) hn (by decide) (by decide) x (by omega) (by omega) z.2.1), n1, if_neg (by omega), if_neg (fun z => by rcases hs with y | y; omega; rw [y] at z; cases z.2.1)]
        exact ⟨0, k, rfl⟩
theorem gm_pt_1 {cs : List Nat} {k to tk tf : Nat} (hk : k ≤ to) (h : gm_pt cs k to = some (tk, tf)) : (k = to ∧ tk = 0 ∧ tf = to) ∨ (cs.getD k 0 = 46 ∧ k + 1 < to ∧ tf = k + 1 ∧ ((tk = 1 ∧ cs.getD (k + 1) 0 = 42 ∧ k + 2 = to) ∨ (tk = 2 ∧ gm_part cs (k + 1) to = to ∧ ¬ (cs.getD (k + 1) 0 = 42 ∧ k + 2 = to)))) := by
  unfold gm_pt at h
  split at h
  · have h := Option.some.inj h
    have h1 : 0 = tk := congrArg Prod.fst h
    have h2 : to = tf := congrArg Prod.snd h
    exact Or.inl ⟨by assumption, h1.symm, h2.symm⟩
  · split at h
    · cases h
    · rename_i z1 z2
      have z3 : cs.getD k 0 = 46 := Decidable.not_not.mp (fun y => z2 (Or.inl y))
      have z4 : ¬ k + 1 = to := fun y => z2 (Or.inr y)
      split at h
      · rename_i z5
        have h := Option.some.inj h
        have h1 : 1 = tk := congrArg Prod.fst h
        have h2 : k + 1 = tf := congrArg Prod.snd h
        exact Or.inr ⟨z3, by omega, h2.symm, Or.inl ⟨h1.symm, z5⟩⟩
      · rename_i z5
        split at h
        · rename_i z6
          have h := Option.some.inj h
          have h1 : 2 = tk := congrArg Prod.fst h
          have h2 : k + 1 = tf := congrArg Prod.snd h
          exact Or.inr ⟨z3, by omega, h2.symm, Or.inr ⟨h1.symm, z6, z5⟩⟩
        · cases h
theorem gm_pat_1 {cs : List Nat} {x to : Nat} {t : Nat × Nat × Nat × Nat} (hx : x < to) (hto : to ≤ cs.length) (h : gm_pat cs x to = some t) : ((t.1 = 3 - gr_rch (tx_sub cs x to) ∧ t.2.2.1 = gr_bh (tx_sub cs x to)) ∧ tx_sub cs x t.2.1 = gr_pn (tx_sub cs x to) ∧ (gr_bh (tx_sub cs x to) = 2 → tx_sub cs t.2.2.2 to = gr_ad (tx_sub cs x to)) ∧ x ≤ t.2.1 ∧ t.2.1 ≤ to ∧ t.2.1 - x ≤ 24 ∧ t.2.2.2 ≤ to) ∧ gr_pat (tx_sub cs x to) = true := by
  unfold gm_pat at h
  rcases hp : gm_ph cs x to with _ | ⟨kd, ne, k⟩
  · rw [hp] at h
    cases h
  · rw [hp] at h
    have h : (match gm_pt cs k to with | none => none | some q => some (kd, ne, q.1, q.2)) = some t := h
    rcases hq : gm_pt cs k to with _ | ⟨tk, tf⟩
    · rw [hq] at h
      cases h
    · rw [hq] at h
      have h : some (kd, ne, tk, tf) = some t := h
      have h := Option.some.inj h
      subst h
      obtain ⟨⟨a1, a2, a3, a4, a5, a6, a7⟩, a8⟩ := gm_ph_1 hx hto hp
      rcases gm_pt_1 a8 hq with ⟨b1, b2, b3⟩ | ⟨b1, b2, b3, b4⟩
      · subst b1 b2 b3
        have hn : tx_ix (tx_sub cs x tf) 46 = none := tx_ix_non hto a4
        have hbd : gr_bd (tx_sub cs x tf) = tx_sub cs x tf := by
          unfold gr_bd
          rw [hn]
        have hbh : gr_bh (tx_sub cs x tf) = 0 := by
          unfold gr_bh
          rw [if_pos hn]
        refine ⟨⟨⟨?_, hbh.symm⟩, ?_, fun y => (by rw [hbh] at y; cases y), a1, a2, a3, Nat.le_refl tf⟩, ?_⟩
        · unfold gr_rch
          rw [hbd]
          exact a5
        · unfold gr_pn gr_rch
          rw [hbd]
          exact a6.symm
        · unfold gr_pat
          rw [hbd, a6, decide_eq_true (p := ¬ (¬ tx_ix (tx_sub cs x tf) 46 = none ∧ ¬ gr_ad (tx_sub cs x tf) = [42] ∧ gr_part (gr_ad (tx_sub cs x tf)) = false)) (fun y => y.1 hn), Bool.true_and]
          rcases a7 with y | y
          · rw [decide_eq_true y]
            rfl
          · rw [y, Bool.or_true]
      · obtain ⟨c1, c2⟩ := gr_bd_at (cs := cs) (x := x) (to := to) (e := k) (by omega) (by omega) hto b1 a4
        have hn := tx_ix_at (cs := cs) (x := x) (to := to) (e := k) (by omega) (by omega) hto b1 a4
        have hpat : ∀ (hA : gr_ad (tx_sub cs x to) = [42] ∨ gr_part (gr_ad (tx_sub cs x to)) = true), gr_pat (tx_sub cs x to) = true := by
          intro hA
          unfold gr_pat
          rw [c1, a6, decide_eq_true (p := ¬ (¬ tx_ix (tx_sub cs x to) 46 = none ∧ ¬ gr_ad (tx_sub cs x to) = [42] ∧ gr_part (gr_ad (tx_sub cs x to)) = false)) (fun y => hA.elim y.2.1 (fun w => by rw [w] at y; cases y.2.2)), Bool.true_and]
          rcases a7 with y | y
          · rw [decide_eq_true y]
            rfl
          · rw [y, Bool.or_true]
        have hbh : gr_bh (tx_sub cs x to) = if gr_ad (tx_sub cs x to) = [42] then 1 else 2 := by
          unfold gr_bh
          rw [if_neg (by rw [hn]; exact fun y => by cases y)]
        rcases b4 with ⟨d1, d2, d3⟩ | ⟨d1, d2, d3⟩
        · have had : gr_ad (tx_sub cs x to) = [42] := by
            rw [c2]
            exact (tx_is1 hto).mpr ⟨by omega, d2⟩
          rw [if_pos had] at hbh
          refine ⟨⟨⟨?_, by rw [hbh]; exact d1⟩, ?_, fun y => (by rw [hbh] at y; cases y), a1, by show ne ≤ to; omega, a3, by show tf ≤ to; omega⟩, hpat (Or.inl had)⟩
          · unfold gr_rch
            rw [c1]
            exact a5
          · unfold gr_pn gr_rch
            rw [c1]
            exact a6.symm
        · have had : ¬ gr_ad (tx_sub cs x to) = [42] := by
            rw [c2]
            intro y
            have := (tx_is1 hto).mp y
            exact d3 ⟨this.2, by omega⟩
          rw [if_neg had] at hbh
          refine ⟨⟨⟨?_, by rw [hbh]; exact d1⟩, ?_, fun _ => ?_, a1, by show ne ≤ to; omega, a3, by show tf ≤ to; omega⟩, hpat (Or.inr ?_)⟩
          · unfold gr_rch
            rw [c1]
            exact a5
          · unfold gr_pn gr_rch
            rw [c1]
            exact a6.symm
          · show tx_sub cs tf to = _
            rw [c2, b3]
          · rw [c2, gm_part_eq (by omega) hto]
            exact decide_eq_true ⟨d2, b2⟩
theorem gm_pat_2 {cs : List Nat} {x to : Nat} (hx : x < to) (hto : to ≤ cs.length) (h : gr_pat (tx_sub cs x to) = true) : (gm_pat cs x to).isSome = true := by
  unfold gr_pat at h
  obtain ⟨h1, h2⟩ := Bool.and_eq_true_iff.mp h
  have h1 := of_decide_eq_true h1
  have h2 : gr_reach (gr_bd (tx_sub cs x to)) = 0 ∨ gr_name (gr_pnm (gr_bd (tx_sub cs x to)) (gr_reach (gr_bd (tx_sub cs x to)))) = true := (Bool.or_eq_true_iff.mp h2).imp of_decide_eq_true id
  rcases hq : tx_ix (tx_sub cs x to) 46 with _ | i
  · have hbd : gr_bd (tx_sub cs x to) = tx_sub cs x to := by
      unfold gr_bd
      rw [hq]
    rw [hbd] at h2
    obtain ⟨kd, ne, hp⟩ := gm_ph_2 (cs := cs) (x := x) (to := to) (k := to) hto (by omega) (Nat.le_refl to) (Or.inl rfl) h2
    have hpt : gm_pt cs to to = some (0, to) := by
      unfold gm_pt
      rw [if_pos rfl]
    unfold gm_pat
    rw [hp]
    show (match gm_pt cs to to with | none => none | some q => some (kd, ne, q.1, q.2)).isSome = true
    rw [hpt]
    rfl
  · have hl := tx_ix_lt hq
    obtain ⟨i1, i2⟩ := tx_ix_is hq
    rw [tx_sub_len hto] at hl
    rw [tx_sub_get hl] at i1
    obtain ⟨b1, b2⟩ := gr_bd_at (cs := cs) (x := x) (to := to) (e := x + i) (by omega) (by omega) hto i1 (fun j h1 h2 => by have := i2 (j - x) (by omega); rwa [tx_sub_get (by omega), show x + (j - x) = j by omega] at this)
    rw [b1] at h2
    obtain ⟨kd, ne, hp⟩ := gm_ph_2 (cs := cs) (x := x) (to := to) (k := x + i) hto (by omega) (by omega) (Or.inr i1) h2
    have hA : gr_ad (tx_sub cs x to) = [42] ∨ gr_part (gr_ad (tx_sub cs x to)) = true := by
      rcases Decidable.em (gr_ad (tx_sub cs x to) = [42]) with y | y
      · exact Or.inl y
      · right
        rcases Bool.eq_false_or_eq_true (gr_part (gr_ad (tx_sub cs x to))) with w | w
        · exact w
        · exact absurd ⟨by rw [hq]; exact fun v => (by cases v), y, w⟩ h1
    rw [b2] at hA
    have hlt : x + i + 1 < to := by
      rcases hA with y | y
      · have := ((tx_is1 hto).mp y).1
        omega
      · rw [gm_part_eq (by omega) hto] at y
        exact (of_decide_eq_true y).2
    have hpt : ∃ q, gm_pt cs (x + i) to = some q := by
      unfold gm_pt
      rw [if_neg (by omega), if_neg (fun y => y.elim (fun w => w i1) (fun w => by omega))]
      by_cases e : cs.getD (x + i + 1) 0 = 42 ∧ x + i + 2 = to
      · rw [if_pos e]
        exact ⟨_, rfl⟩
      · rw [if_neg e]
        rcases hA with y | y
        · have := (tx_is1 hto).mp y
          exact absurd ⟨this.2, by omega⟩ e
        · rw [gm_part_eq (by omega) hto] at y
          rw [if_pos (of_decide_eq_true y).1]
          exact ⟨_, rfl⟩
    obtain ⟨q, hpt⟩ := hpt
    unfold gm_pat
    rw [hp]
    show (match gm_pt cs (x + i) to with | none => none | some q => some (kd, ne, q.1, q.2)).isSome = true
    rw [hpt]
    rfl
theorem gm_pat_eq {cs : List Nat} {x to : Nat} (hx : x < to) (hto : to ≤ cs.length) : gr_pat (tx_sub cs x to) = (gm_pat cs x to).isSome := by
  rcases Bool.eq_false_or_eq_true (gr_pat (tx_sub cs x to)) with h | h
  · rw [h, gm_pat_2 hx hto h]
  · rw [h]
    rcases hq : gm_pat cs x to with _ | t
    · rfl
    · have := (gm_pat_1 hx hto hq).2
      rw [h] at this
      cases this
