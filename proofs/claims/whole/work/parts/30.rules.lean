/-! patterns, rules -/
def gr_bh (w : List Nat) : Nat := if tx_ix w 46 = none then 0 else if gr_ad w = [42] then 1 else 2
def gr_rch (w : List Nat) : Nat := gr_reach (gr_bd w)
def gr_pn (w : List Nat) : List Nat := gr_pnm (gr_bd w) (gr_rch w)
def gr_rank (w : List Nat) : Nat := (gr_rch w * 64 + (gr_pn w).length) * 4 + gr_bh w
theorem gr_bh_le (w : List Nat) : gr_bh w ≤ 2 := by
  unfold gr_bh
  split
  · decide
  · split <;> decide
theorem gr_rch_le (w : List Nat) : gr_rch w ≤ 3 := gr_reach_le _
theorem gr_rank_lt {w : List Nat} (h : (gr_pn w).length ≤ 60) : gr_rank w < 2000 := by
  have h1 := gr_bh_le w
  have h2 := gr_rch_le w
  unfold gr_rank
  omega
def pd_Pat (h : pd_H) (x t : Nat) (w : List Nat) : Prop := ∃ (nm mn : Nat), h x = some (t, .inr (7, [.int (nI (gr_rch w)), .ref nm, .int (nI (gr_bh w)), .ref mn, .int (nI (gr_rank w))])) ∧ pd_Str h nm (gr_pn w) ∧ pd_Str h mn (gr_ad w)
theorem pd_Pat.kx {ts : List Nat} {h h' : pd_H} {x t : Nat} {w : List Nat} (q : pd_Pat h x t w) (k : pd_kx ts h h') (n1 : t ∉ ts) (n0 : 0 ∉ ts) : pd_Pat h' x t w := by
  obtain ⟨nm, mn, h1, h2, h3⟩ := q
  exact ⟨nm, mn, k _ _ h1 n1, h2.kx k n0, h3.kx k n0⟩
theorem pd_Pat.tag {G : pd_G} {s : State} {H : Heap} {locs : List Loc} {h : pd_H} {a : Nat} {r : List Nat} (w : pd_w G s H locs h) (hz : ∀ (x : Nat) (d : pd_C), G.2.2.1 x = some d → x < G.2.1) (ha : G.2.1 ≤ a) (q : pd_Pat h a 18 r) : ∃ h', pd_w G s H locs h' ∧ pd_kx [18] h h' ∧ pd_Pat h' a 0 r := by
  obtain ⟨nm, fx, h1, h2, h3⟩ := q
  have k1 := pd_up_kx h1 (c := (0, .inr (7, [.int (nI (gr_rch r)), .ref nm, .int (nI (gr_bh r)), .ref fx, .int (nI (gr_rank r))])))
  have n0 : (0 : Nat) ∉ [18] := by decide
  exact ⟨_, w.tag hz 0 h1 ha, k1, nm, fx, pd_up_s _ _ _, h2.kx k1 n0, h3.kx k1 n0⟩
/-- verb, pattern, cost, stand-in -/
abbrev pd_rr : Type := Nat × List Nat × Nat × Option Nat
def pd_RRow (G : pd_G) (h : pd_H) (B : Nat → Nat) (x t : Nat) (r : pd_rr) : Prop := ∃ (pa : Nat), h x = some (t, .inr (8, [.ref (G.2.2.2 (10 + r.1)), .ref pa, .int (nI r.2.2.1), va_rf (r.2.2.2.map B)])) ∧ pd_Pat h pa 0 r.2.1
theorem pd_RRow.kx {G : pd_G} {ts : List Nat} {h h' : pd_H} {B : Nat → Nat} {x t : Nat} {r : pd_rr} (q : pd_RRow G h B x t r) (k : pd_kx ts h h') (n1 : t ∉ ts) (n0 : 0 ∉ ts) : pd_RRow G h' B x t r := by
  obtain ⟨pa, h1, h2⟩ := q
  exact ⟨pa, k _ _ h1 n1, h2.kx k n0 n0⟩
def pd_RRows (G : pd_G) (h : pd_H) (B : Nat → Nat) (k : Nat) (C : Nat → Nat) (u : Nat) (U : Nat → pd_rr) : Prop := ∀ i, i < u → pd_RRow G h B (C i) 0 (U i) ∧ (U i).1 < 13 ∧ (U i).2.2.1 < 1000 ∧ ∀ b, (U i).2.2.2 = some b → b < k
theorem pd_RRows.kx {G : pd_G} {ts : List Nat} {h h' : pd_H} {B C : Nat → Nat} {k u : Nat} {U : Nat → pd_rr} (q : pd_RRows G h B k C u U) (kx : pd_kx ts h h') (n0 : 0 ∉ ts) : pd_RRows G h' B k C u U := fun i hi => ⟨(q i hi).1.kx kx n0 n0, (q i hi).2⟩
def pd_Ruls (G : pd_G) (h : pd_H) (x : Nat) (B : Nat → Nat) (k : Nat) (C : Nat → Nat) (u : Nat) (U : Nat → pd_rr) : Prop := ∃ (ar : Nat) (f : Nat → Option Nat), h x = some (13, .inr (9, [.ref ar, .int (nI u)])) ∧ h ar = some (14, .inl (.object "PolicyDesk$RuleRow", 24, .inr (.inr (.inr (.inr f))))) ∧ (∀ i, i < u → f i = some (C i)) ∧ G.2.1 ≤ x ∧ G.2.1 ≤ ar ∧ u ≤ 24 ∧ pd_RRows G h B k C u U
theorem pd_Ruls.kx {G : pd_G} {ts : List Nat} {h h' : pd_H} {x k u : Nat} {B C : Nat → Nat} {U : Nat → pd_rr} (q : pd_Ruls G h x B k C u U) (kx : pd_kx ts h h') (n1 : 13 ∉ ts) (n2 : 14 ∉ ts) (n0 : 0 ∉ ts) : pd_Ruls G h' x B k C u U := by
  obtain ⟨ar, f, h1, h2, h3, h4, h5, h6, h7⟩ := q
  exact ⟨ar, f, kx _ _ h1 n1, kx _ _ h2 n2, h3, h4, h5, h6, h7.kx kx n0⟩
theorem pd_omap2 {A A2 : Nat → Nat} {n : Nat} {o : Option Nat} (h : ∀ k, o = some k → k < n) (ha : ∀ i, i < n → A2 i = A i) : o.map A2 = o.map A := by
  cases o with
  | none => rfl
  | some k => rw [Option.map_some, Option.map_some, ha _ (h k rfl)]
/-- other addresses of members that are the same below k -/
theorem pd_Ruls.ag {G : pd_G} {h : pd_H} {x k k2 u : Nat} {B B2 C : Nat → Nat} {U : Nat → pd_rr} (q : pd_Ruls G h x B k C u U) (ha : ∀ i, i < k → B2 i = B i) (hn : k ≤ k2) : pd_Ruls G h x B2 k2 C u U := by
  obtain ⟨ar, f, h1, h2, h3, h4, h5, h6, h7⟩ := q
  refine ⟨ar, f, h1, h2, h3, h4, h5, h6, fun i hi => ?_⟩
  obtain ⟨⟨pa, z1, z2⟩, z3, z4, z5⟩ := h7 i hi
  exact ⟨⟨pa, (by rw [pd_omap2 z5 ha]; exact z1), z2⟩, z3, z4, fun b hb => Nat.lt_of_lt_of_le (z5 b hb) hn⟩
/-- whether a pattern fits a class's name -/
def gr_fcl (cs w : List Nat) : Bool := if gr_rch w = 0 then true else if gr_rch w = 1 then gr_at cs (gr_pn w).length 47 && gr_sw cs (gr_pn w) else if gr_rch w = 2 then decide (gr_sl cs = some (gr_pn w).length) && gr_sw cs (gr_pn w) else decide (cs = gr_pn w)
def gr_ftm (M : Nat → pd_mr) (w : List Nat) (o : Option Nat) : Bool := if gr_bh w = 0 then true else match o with
  | none => false
  | some m => if gr_bh w = 2 then decide ((M m).2.1 = gr_ad w) else true
def gr_fits (R : Nat → pd_cr) (M : Nat → pd_mr) (w : List Nat) (j : Nat) (o : Option Nat) : Bool := gr_ftm M w o && gr_fcl (R j).1 w
def gr_btr (U : Nat → pd_rr) (b : Option Nat) (i : Nat) : Bool := match b with
  | none => true
  | some t => decide (gr_rank (U t).2.1 ≤ gr_rank (U i).2.1)
/-- the best among the first rules -/
def gr_bst (R : Nat → pd_cr) (M : Nat → pd_mr) (U : Nat → pd_rr) (v1 v2 j : Nat) (o : Option Nat) : Nat → Option Nat
  | 0 => none
  | i + 1 => if ((decide ((U i).1 = v1) || decide ((U i).1 = v2)) && gr_btr U (gr_bst R M U v1 v2 j o i) i && gr_fits R M (U i).2.1 j o) = true then some i else gr_bst R M U v1 v2 j o i
theorem gr_bst_lt {R : Nat → pd_cr} {M : Nat → pd_mr} {U : Nat → pd_rr} {v1 v2 j : Nat} {o : Option Nat} : ∀ {i t : Nat}, gr_bst R M U v1 v2 j o i = some t → t < i
  | 0, _, h => by rw [gr_bst] at h; cases h
  | i + 1, t, h => by
    rw [gr_bst] at h
    split at h
    · cases h
      omega
    · have := gr_bst_lt h
      omega
theorem gr_bst_y {R : Nat → pd_cr} {M : Nat → pd_mr} {U : Nat → pd_rr} {v1 v2 j i : Nat} {o b : Option Nat} (hb : gr_bst R M U v1 v2 j o i = b) (h1 : (U i).1 = v1 ∨ (U i).1 = v2) (h2 : gr_btr U b i = true) (h3 : gr_fits R M (U i).2.1 j o = true) : gr_bst R M U v1 v2 j o (i + 1) = some i := by
  rw [gr_bst, hb, h2, h3, if_pos]
  rcases h1 with h1 | h1
  · rw [decide_eq_true h1]; rfl
  · rw [decide_eq_true h1, Bool.or_true]; rfl
theorem gr_bst_n1 {R : Nat → pd_cr} {M : Nat → pd_mr} {U : Nat → pd_rr} {v1 v2 j i : Nat} {o b : Option Nat} (hb : gr_bst R M U v1 v2 j o i = b) (h1 : ¬ (U i).1 = v1) (h2 : ¬ (U i).1 = v2) : gr_bst R M U v1 v2 j o (i + 1) = b := by
  rw [gr_bst, decide_eq_false h1, decide_eq_false h2, hb]
  exact if_neg (by simp)
theorem gr_bst_n2 {R : Nat → pd_cr} {M : Nat → pd_mr} {U : Nat → pd_rr} {v1 v2 j i : Nat} {o b : Option Nat} (hb : gr_bst R M U v1 v2 j o i = b) (h2 : gr_btr U b i = false) : gr_bst R M U v1 v2 j o (i + 1) = b := by
  rw [gr_bst, hb, h2, Bool.and_false]
  exact if_neg (by simp)
theorem gr_bst_n3 {R : Nat → pd_cr} {M : Nat → pd_mr} {U : Nat → pd_rr} {v1 v2 j i : Nat} {o b : Option Nat} (hb : gr_bst R M U v1 v2 j o i = b) (h3 : gr_fits R M (U i).2.1 j o = false) : gr_bst R M U v1 v2 j o (i + 1) = b := by
  rw [gr_bst, hb, h3, Bool.and_false]
  exact if_neg (by simp)
/-- the answer of an add of a rule, the rows behind it -/
def gr_radd (u : Nat) (U : Nat → pd_rr) (r : pd_rr) : Int32 × Nat × (Nat → pd_rr) := if u < 24 then (nI u, u + 1, pd_fu U u r) else (-5, u, U)
theorem gr_radd_y {u : Nat} {U : Nat → pd_rr} {r : pd_rr} (h : u < 24) : gr_radd u U r = (nI u, u + 1, pd_fu U u r) := if_pos h
theorem gr_radd_n {u : Nat} {U : Nat → pd_rr} {r : pd_rr} (h : ¬ u < 24) : gr_radd u U r = (-5, u, U) := if_neg h
theorem gr_sll_lt : ∀ {cs : List Nat} {i t : Nat} {o : Option Nat}, gr_sll cs i o = some t → o = some t ∨ t < i + cs.length
  | [], _, _, _, h => Or.inl h
  | x :: cs, i, t, o, h => by
    rw [gr_sll] at h
    have z := gr_sll_lt h
    rw [List.length_cons]
    rcases z with z | z
    · split at z
      · cases z
        right
        omega
      · exact Or.inl z
    · right
      omega
theorem gr_sl_lt {cs : List Nat} {t : Nat} (h : gr_sl cs = some t) : t < cs.length := by
  rcases gr_sll_lt h with z | z
  · cases z
  · omega
theorem pd_mn {o : Option Nat} {x : Nat} (hx : x < 2 ^ 31) (ho : ∀ t, o = some t → t < 2 ^ 31) : pd_m o = nI x ↔ o = some x := by
  cases o with
  | none =>
    constructor
    · intro h
      exact absurd h (pd_m1 hx)
    · intro h
      cases h
  | some t =>
    constructor
    · intro h
      have h : nI t = nI x := h
      rw [(nI_eq (ho t rfl) hx).mp h]
    · intro h
      cases h
      rfl
theorem d_p10m1_0 : decode prog_10_method_1_code 0 = .ok (.aload_n 0, 1) := by decide +kernel
theorem d_p10m1_1 : decode prog_10_method_1_code 1 = .ok (.invokespecial 1, 3) := by decide +kernel
theorem d_p10m1_4 : decode prog_10_method_1_code 4 = .ok (.aload_n 1, 1) := by decide +kernel
theorem d_p10m1_5 : decode prog_10_method_1_code 5 = .ok (.invokestatic 7, 3) := by decide +kernel
theorem d_p10m1_8 : decode prog_10_method_1_code 8 = .ok (.astore_n 2, 1) := by decide +kernel
theorem d_p10m1_9 : decode prog_10_method_1_code 9 = .ok (.aload_n 0, 1) := by decide +kernel
theorem d_p10m1_10 : decode prog_10_method_1_code 10 = .ok (.aload_n 2, 1) := by decide +kernel
theorem d_p10m1_11 : decode prog_10_method_1_code 11 = .ok (.invokestatic 13, 3) := by decide +kernel
theorem d_p10m1_14 : decode prog_10_method_1_code 14 = .ok (.putfield 19, 3) := by decide +kernel
theorem d_p10m1_17 : decode prog_10_method_1_code 17 = .ok (.aload_n 0, 1) := by decide +kernel
theorem d_p10m1_18 : decode prog_10_method_1_code 18 = .ok (.aload_n 2, 1) := by decide +kernel
theorem d_p10m1_19 : decode prog_10_method_1_code 19 = .ok (.aload_n 0, 1) := by decide +kernel
theorem d_p10m1_20 : decode prog_10_method_1_code 20 = .ok (.getfield 19, 3) := by decide +kernel
theorem d_p10m1_23 : decode prog_10_method_1_code 23 = .ok (.invokestatic 23, 3) := by decide +kernel
theorem d_p10m1_26 : decode prog_10_method_1_code 26 = .ok (.putfield 27, 3) := by decide +kernel
theorem d_p10m1_29 : decode prog_10_method_1_code 29 = .ok (.aload_n 0, 1) := by decide +kernel
theorem d_p10m1_30 : decode prog_10_method_1_code 30 = .ok (.aload_n 1, 1) := by decide +kernel
theorem d_p10m1_31 : decode prog_10_method_1_code 31 = .ok (.invokestatic 31, 3) := by decide +kernel
theorem d_p10m1_34 : decode prog_10_method_1_code 34 = .ok (.putfield 34, 3) := by decide +kernel
theorem d_p10m1_37 : decode prog_10_method_1_code 37 = .ok (.aload_n 0, 1) := by decide +kernel
theorem d_p10m1_38 : decode prog_10_method_1_code 38 = .ok (.aload_n 1, 1) := by decide +kernel
theorem d_p10m1_39 : decode prog_10_method_1_code 39 = .ok (.bipush 46, 2) := by decide +kernel
theorem d_p10m1_41 : decode prog_10_method_1_code 41 = .ok (.invokevirtual 37, 3) := by decide +kernel
theorem d_p10m1_44 : decode prog_10_method_1_code 44 = .ok (.ifCond .ge 7, 3) := by decide +kernel
theorem d_p10m1_47 : decode prog_10_method_1_code 47 = .ok (.iconst 0, 1) := by decide +kernel
theorem d_p10m1_48 : decode prog_10_method_1_code 48 = .ok (.goto 20, 3) := by decide +kernel
theorem d_p10m1_51 : decode prog_10_method_1_code 51 = .ok (.aload_n 0, 1) := by decide +kernel
theorem d_p10m1_52 : decode prog_10_method_1_code 52 = .ok (.getfield 34, 3) := by decide +kernel
theorem d_p10m1_55 : decode prog_10_method_1_code 55 = .ok (.ldc 43, 2) := by decide +kernel
theorem d_p10m1_57 : decode prog_10_method_1_code 57 = .ok (.invokevirtual 45, 3) := by decide +kernel
theorem d_p10m1_60 : decode prog_10_method_1_code 60 = .ok (.ifCond .eq 7, 3) := by decide +kernel
theorem d_p10m1_63 : decode prog_10_method_1_code 63 = .ok (.iconst 1, 1) := by decide +kernel
theorem d_p10m1_64 : decode prog_10_method_1_code 64 = .ok (.goto 4, 3) := by decide +kernel
theorem d_p10m1_67 : decode prog_10_method_1_code 67 = .ok (.iconst 2, 1) := by decide +kernel
theorem d_p10m1_68 : decode prog_10_method_1_code 68 = .ok (.putfield 49, 3) := by decide +kernel
theorem d_p10m1_71 : decode prog_10_method_1_code 71 = .ok (.aload_n 0, 1) := by decide +kernel
theorem d_p10m1_72 : decode prog_10_method_1_code 72 = .ok (.aload_n 0, 1) := by decide +kernel
theorem d_p10m1_73 : decode prog_10_method_1_code 73 = .ok (.getfield 19, 3) := by decide +kernel
theorem d_p10m1_76 : decode prog_10_method_1_code 76 = .ok (.bipush 64, 2) := by decide +kernel
theorem d_p10m1_78 : decode prog_10_method_1_code 78 = .ok (.imul, 1) := by decide +kernel
theorem d_p10m1_79 : decode prog_10_method_1_code 79 = .ok (.aload_n 0, 1) := by decide +kernel
theorem d_p10m1_80 : decode prog_10_method_1_code 80 = .ok (.getfield 27, 3) := by decide +kernel
theorem d_p10m1_83 : decode prog_10_method_1_code 83 = .ok (.invokevirtual 52, 3) := by decide +kernel
theorem d_p10m1_86 : decode prog_10_method_1_code 86 = .ok (.iadd, 1) := by decide +kernel
theorem d_p10m1_87 : decode prog_10_method_1_code 87 = .ok (.iconst 4, 1) := by decide +kernel
theorem d_p10m1_88 : decode prog_10_method_1_code 88 = .ok (.imul, 1) := by decide +kernel
theorem d_p10m1_89 : decode prog_10_method_1_code 89 = .ok (.aload_n 0, 1) := by decide +kernel
theorem d_p10m1_90 : decode prog_10_method_1_code 90 = .ok (.getfield 49, 3) := by decide +kernel
theorem d_p10m1_93 : decode prog_10_method_1_code 93 = .ok (.iadd, 1) := by decide +kernel
theorem d_p10m1_94 : decode prog_10_method_1_code 94 = .ok (.putfield 56, 3) := by decide +kernel
theorem d_p10m1_97 : decode prog_10_method_1_code 97 = .ok (.return_, 1) := by decide +kernel
abbrev y_Pattern_init : MethodName := ⟨"PolicyDesk$Pattern", "<init>", "(Ljava/lang/String;)V"⟩
theorem ok_Pattern_init : pd_ok y_Pattern_init prog_10_method_1_code 3 none 1 := ⟨mT_872, mT_28, by decide, by decide +kernel⟩
abbrev rm_Pattern_init : Room := { frames := 8, cells := 10, slots := 320, locals := 194 }
set_option maxHeartbeats 4000000 in
set_option maxRecDepth 100000 in
theorem c_Pattern_init (l : Launch) (G : pd_G) (h : pd_H) {a : Nat} {cs : List Nat} {x : Nat} (hS : pd_Str h a cs) (hx0 : h x = some (18, .inr (7, [.int (nI 0), .null, .int (nI 0), .null, .int (nI 0)]))) (hz_x : G.2.1 ≤ x) : pd_Mv l y_Pattern_init prog_10_method_1_code 3 rm_Pattern_init G h [.ref x, .ref a] (fun h1 => pd_kx [18] h h1 ∧ pd_Pat h1 x 18 cs) := by
  refine pd_Mv.of (by decide) (Nat.le_of_ble_eq_true rfl) ?_
  intro p e s m below meth c X hmn w ls hl
  have hx := X.1
  have hb := X.2.1
  have hl : lv_has ls 3 [(0, .ref x), (1, .ref a)] := hl
  obtain ⟨v1, f1, hv1, hv2, hvf, hvc, hvl⟩ := id hS
  refine lv_aload_n hx hb d_p10m1_0 rfl (lv_at hl 0 rfl) ?_
  refine W.objInit hx hb X.2.2.2.2.1 (X.2.2.2.2.2.1 _ mT_873) (X.2.2.2.2.2.1 _ mT_38) (X.2.2.2.2.2.1 _ mT_39) rfl (by rw [X.2.2.2.1]; exact hl.1) rfl d_p10m1_1 (by decide) (Nat.le_of_ble_eq_true rfl) ?_
  refine W.eq (g2 := F0 m 4 ls []) rfl ?_
  refine lv_aload_n hx hb d_p10m1_4 rfl (lv_at hl 1 rfl) ?_
  refine pd_cS (As := [.ref a]) (rest := []) X w (c_Grammar_beforeDot l G h (by assumption)) ok_Grammar_beforeDot mT_714 mT_874 ⟨by decide, by decide⟩ rfl hl.1 rfl (Nat.le_of_ble_eq_true rfl) d_p10m1_5 ⟨by decide, by decide⟩ (fun r1 h2 H locs hp3 w => ?_)
  refine W.widen (k := 2) (n := 64) (by decide) (by decide) ?_
  obtain ⟨k4, ds5, e6, f7⟩ := hp3
  have f15 := k4 _ _ hv1 List.not_mem_nil
  have f16 := k4 _ _ hx0 List.not_mem_nil
  have f17 := k4 _ _ hv2 List.not_mem_nil
  have f18 := hS.kx k4 List.not_mem_nil
  obtain ⟨v8, g9, f10, f11, gf12, gc13, gl14⟩ := id f7
  refine lv_astore_n (lv' := [(2, .ref r1), (0, .ref x), (1, .ref a)]) hx hb d_p10m1_8 rfl hl (by decide) rfl (fun ls hl => ?_)
  refine lv_aload_n hx hb d_p10m1_9 rfl (lv_at hl 1 rfl) ?_
  refine lv_aload_n hx hb d_p10m1_10 rfl (lv_at hl 0 rfl) ?_
  refine pd_cS (As := [.ref r1]) (rest := [.ref x]) X w (c_Pattern_reachOf l G h2 (by assumption)) ok_Pattern_reachOf mT_748 mT_875 ⟨by decide, by decide⟩ rfl hl.1 rfl (Nat.le_of_ble_eq_true rfl) d_p10m1_11 ⟨by decide, by decide⟩ (fun r19 h20 H locs hp21 w => ?_)
  refine W.widen (k := 6) (n := 192) (by decide) (by decide) ?_
  obtain ⟨e22, k23⟩ := hp21
  have f24 := k23 _ _ f15 List.not_mem_nil
  have f25 := k23 _ _ f16 List.not_mem_nil
  have f26 := k23 _ _ f10 List.not_mem_nil
  have f27 := k23 _ _ f17 List.not_mem_nil
  have f28 := k23 _ _ f11 List.not_mem_nil
  have f29 := f18.kx k23 List.not_mem_nil
  have f30 := f7.kx k23 List.not_mem_nil
  refine pd_putF (ty := .int) X w f25 hz_x rfl 0 (by decide) mT_880 rfl rfl hmn rfl (by decide +kernel) rfl rfl (Nat.le_of_ble_eq_true rfl) d_p10m1_14 (fun H locs w => ?_)
  have w : pd_w G s H locs (pd_up h20 x (18, .inr (7, [.int (nI r19), .null, .int (nI 0), .null, .int (nI 0)]))) := w
  obtain ⟨h31, u34⟩ : ∃ z, z = pd_up h20 x (18, .inr (7, [.int (nI r19), .null, .int (nI 0), .null, .int (nI 0)])) := ⟨_, rfl⟩
  rw [← u34] at w
  have k32 : pd_kq x h20 h31 := by rw [u34]; exact pd_up_kq
  have f33 : h31 x = some (18, .inr (7, [.int (nI r19), .null, .int (nI 0), .null, .int (nI 0)])) := by rw [u34]; exact pd_up_s _ _ _
  have f35 := k32 _ _ (pd_ne f24 f25 (by simp)) f24
  have f36 := k32 _ _ (pd_ne f26 f25 (by simp)) f26
  have f37 := k32 _ _ (pd_ne f27 f25 (by simp)) f27
  have f38 := k32 _ _ (pd_ne f28 f25 (by simp)) f28
  have f39 : pd_Str h31 a cs := ⟨_, _, f35, f37, hvf, hvc, hvl⟩
  have f40 : pd_Str h31 r1 ds5 := ⟨_, _, f36, f38, gf12, gc13, gl14⟩
  refine lv_aload_n hx hb d_p10m1_17 rfl (lv_at hl 1 rfl) ?_
  refine lv_aload_n hx hb d_p10m1_18 rfl (lv_at hl 0 rfl) ?_
  refine lv_aload_n hx hb d_p10m1_19 rfl (lv_at hl 1 rfl) ?_
  refine pd_get X w f33 rfl 0 (by decide) mT_880 rfl rfl d_p10m1_20 ?_
  refine pd_cS (As := [.ref r1, .int (nI r19)]) (rest := [.ref x]) X w (c_Pattern_nameOf l G h31 (by assumption) (by rw [e22]; exact gr_reach_le _) (fun z => gr_reach_1 (by rw [← e22]; exact z)) (fun z => gr_reach_2 (by rw [← e22]; exact z))) ok_Pattern_nameOf mT_758 mT_876 ⟨by decide, by decide⟩ rfl hl.1 rfl (Nat.le_of_ble_eq_true rfl) d_p10m1_23 ⟨by decide, by decide⟩ (fun r41 h42 H locs hp43 w => ?_)
  refine W.widen (k := 8) (n := 256) (by decide) (by decide) ?_
  obtain ⟨k44, ds45, e46, f47⟩ := hp43
  have f55 := k44 _ _ f35 List.not_mem_nil
  have f56 := k44 _ _ f36 List.not_mem_nil
  have f57 := k44 _ _ f33 List.not_mem_nil
  have f58 := k44 _ _ f37 List.not_mem_nil
  have f59 := k44 _ _ f38 List.not_mem_nil
  have f60 := f39.kx k44 List.not_mem_nil
  have f61 := f40.kx k44 List.not_mem_nil
  obtain ⟨v48, g49, f50, f51, gf52, gc53, gl54⟩ := id f47
  refine pd_putF (ty := (.object "java/lang/String")) X w f57 hz_x rfl 1 (by decide) mT_881 rfl rfl hmn rfl (by decide +kernel) rfl rfl (Nat.le_of_ble_eq_true rfl) d_p10m1_26 (fun H locs w => ?_)
  have w : pd_w G s H locs (pd_up h42 x (18, .inr (7, [.int (nI r19), .ref r41, .int (nI 0), .null, .int (nI 0)]))) := w
  obtain ⟨h62, u65⟩ : ∃ z, z = pd_up h42 x (18, .inr (7, [.int (nI r19), .ref r41, .int (nI 0), .null, .int (nI 0)])) := ⟨_, rfl⟩
  rw [← u65] at w
  have k63 : pd_kq x h42 h62 := by rw [u65]; exact pd_up_kq
  have f64 : h62 x = some (18, .inr (7, [.int (nI r19), .ref r41, .int (nI 0), .null, .int (nI 0)])) := by rw [u65]; exact pd_up_s _ _ _
  have f66 := k63 _ _ (pd_ne f55 f57 (by simp)) f55
  have f67 := k63 _ _ (pd_ne f56 f57 (by simp)) f56
  have f68 := k63 _ _ (pd_ne f50 f57 (by simp)) f50
  have f69 := k63 _ _ (pd_ne f58 f57 (by simp)) f58
  have f70 := k63 _ _ (pd_ne f59 f57 (by simp)) f59
  have f71 := k63 _ _ (pd_ne f51 f57 (by simp)) f51
  have f72 : pd_Str h62 a cs := ⟨_, _, f66, f69, hvf, hvc, hvl⟩
  have f73 : pd_Str h62 r1 ds5 := ⟨_, _, f67, f70, gf12, gc13, gl14⟩
  have f74 : pd_Str h62 r41 ds45 := ⟨_, _, f68, f71, gf52, gc53, gl54⟩
  refine lv_aload_n hx hb d_p10m1_29 rfl (lv_at hl 1 rfl) ?_
  refine lv_aload_n hx hb d_p10m1_30 rfl (lv_at hl 2 rfl) ?_
  refine pd_cS (As := [.ref a]) (rest := [.ref x]) X w (c_Grammar_afterDot l G h62 (by assumption)) ok_Grammar_afterDot mT_649 mT_877 ⟨by decide, by decide⟩ rfl hl.1 rfl (Nat.le_of_ble_eq_true rfl) d_p10m1_31 ⟨by decide, by decide⟩ (fun r75 h76 H locs hp77 w => ?_)
  refine W.widen (k := 10) (n := 320) (by decide) (by decide) ?_
  obtain ⟨k78, ds79, e80, f81⟩ := hp77
  have f89 := k78 _ _ f66 List.not_mem_nil
  have f90 := k78 _ _ f67 List.not_mem_nil
  have f91 := k78 _ _ f68 List.not_mem_nil
  have f92 := k78 _ _ f64 List.not_mem_nil
  have f93 := k78 _ _ f69 List.not_mem_nil
  have f94 := k78 _ _ f70 List.not_mem_nil
  have f95 := k78 _ _ f71 List.not_mem_nil
  have f96 := f72.kx k78 List.not_mem_nil
  have f97 := f73.kx k78 List.not_mem_nil
  have f98 := f74.kx k78 List.not_mem_nil
  obtain ⟨v82, g83, f84, f85, gf86, gc87, gl88⟩ := id f81
  refine pd_putF (ty := (.object "java/lang/String")) X w f92 hz_x rfl 3 (by decide) mT_883 rfl rfl hmn rfl (by decide +kernel) rfl rfl (Nat.le_of_ble_eq_true rfl) d_p10m1_34 (fun H locs w => ?_)
  have w : pd_w G s H locs (pd_up h76 x (18, .inr (7, [.int (nI r19), .ref r41, .int (nI 0), .ref r75, .int (nI 0)]))) := w
  obtain ⟨h99, u102⟩ : ∃ z, z = pd_up h76 x (18, .inr (7, [.int (nI r19), .ref r41, .int (nI 0), .ref r75, .int (nI 0)])) := ⟨_, rfl⟩
  rw [← u102] at w
  have k100 : pd_kq x h76 h99 := by rw [u102]; exact pd_up_kq
  have f101 : h99 x = some (18, .inr (7, [.int (nI r19), .ref r41, .int (nI 0), .ref r75, .int (nI 0)])) := by rw [u102]; exact pd_up_s _ _ _
  have f103 := k100 _ _ (pd_ne f89 f92 (by simp)) f89
  have f104 := k100 _ _ (pd_ne f90 f92 (by simp)) f90
  have f105 := k100 _ _ (pd_ne f91 f92 (by simp)) f91
  have f106 := k100 _ _ (pd_ne f84 f92 (by simp)) f84
  have f107 := k100 _ _ (pd_ne f93 f92 (by simp)) f93
  have f108 := k100 _ _ (pd_ne f94 f92 (by simp)) f94
  have f109 := k100 _ _ (pd_ne f95 f92 (by simp)) f95
  have f110 := k100 _ _ (pd_ne f85 f92 (by simp)) f85
  have f111 : pd_Str h99 a cs := ⟨_, _, f103, f107, hvf, hvc, hvl⟩
  have f112 : pd_Str h99 r1 ds5 := ⟨_, _, f104, f108, gf12, gc13, gl14⟩
  have f113 : pd_Str h99 r41 ds45 := ⟨_, _, f105, f109, gf52, gc53, gl54⟩
  have f114 : pd_Str h99 r75 ds79 := ⟨_, _, f106, f110, gf86, gc87, gl88⟩
  refine lv_aload_n hx hb d_p10m1_37 rfl (lv_at hl 1 rfl) ?_
  refine lv_aload_n hx hb d_p10m1_38 rfl (lv_at hl 2 rfl) ?_
  refine lv_bipush (v := nI 46) hx hb d_p10m1_39 (by decide) ?_
  refine pd_cV (a := a) (As := [.int (nI 46)]) (rest := [.ref x]) X w f103 rfl (c_String_indexOf l G h99 (by assumption) (by omega)) ok_String_indexOf ⟨mT_652, mT_653⟩ mT_878 ⟨by decide, by decide⟩ rfl hl.1 rfl (Nat.le_of_ble_eq_true rfl) d_p10m1_41 ⟨by decide, by decide⟩ (fun r115 h116 H locs hp117 w => ?_)
  refine W.widen (k := 10) (n := 320) (by decide) (by decide) ?_
  obtain ⟨e118, rfl⟩ := hp117
  refine pd_mge (tgt := 51) hx hb d_p10m1_44 (by decide) (fun x hx => by have z := tx_ix_lt (e118.symm.trans hx); (try simp at z); omega) (fun q119 => ?_) (fun j120 q119 => ?_)
  · -- none: 47
    rw [q119] at e118
    refine lv_iconst (v := nI 0) hx hb d_p10m1_47 (by decide) ?_
    refine lv_goto (tgt := 68) hx hb d_p10m1_48 (by decide) ?_
    refine pd_putF (ty := .int) X w f101 hz_x rfl 2 (by decide) mT_882 rfl rfl hmn rfl (by decide +kernel) rfl rfl (Nat.le_of_ble_eq_true rfl) d_p10m1_68 (fun H locs w => ?_)
    have w : pd_w G s H locs (pd_up h99 x (18, .inr (7, [.int (nI r19), .ref r41, .int (nI 0), .ref r75, .int (nI 0)]))) := w
    obtain ⟨h121, u124⟩ : ∃ z, z = pd_up h99 x (18, .inr (7, [.int (nI r19), .ref r41, .int (nI 0), .ref r75, .int (nI 0)])) := ⟨_, rfl⟩
    rw [← u124] at w
    have k122 : pd_kq x h99 h121 := by rw [u124]; exact pd_up_kq
    have f123 : h121 x = some (18, .inr (7, [.int (nI r19), .ref r41, .int (nI 0), .ref r75, .int (nI 0)])) := by rw [u124]; exact pd_up_s _ _ _
    have f125 := k122 _ _ (pd_ne f103 f101 (by simp)) f103
    have f126 := k122 _ _ (pd_ne f104 f101 (by simp)) f104
    have f127 := k122 _ _ (pd_ne f105 f101 (by simp)) f105
    have f128 := k122 _ _ (pd_ne f106 f101 (by simp)) f106
    have f129 := k122 _ _ (pd_ne f107 f101 (by simp)) f107
    have f130 := k122 _ _ (pd_ne f108 f101 (by simp)) f108
    have f131 := k122 _ _ (pd_ne f109 f101 (by simp)) f109
    have f132 := k122 _ _ (pd_ne f110 f101 (by simp)) f110
    have f133 : pd_Str h121 a cs := ⟨_, _, f125, f129, hvf, hvc, hvl⟩
    have f134 : pd_Str h121 r1 ds5 := ⟨_, _, f126, f130, gf12, gc13, gl14⟩
    have f135 : pd_Str h121 r41 ds45 := ⟨_, _, f127, f131, gf52, gc53, gl54⟩
    have f136 : pd_Str h121 r75 ds79 := ⟨_, _, f128, f132, gf86, gc87, gl88⟩
    refine lv_aload_n hx hb d_p10m1_71 rfl (lv_at hl 1 rfl) ?_
    refine lv_aload_n hx hb d_p10m1_72 rfl (lv_at hl 1 rfl) ?_
    refine pd_get X w f123 rfl 0 (by decide) mT_880 rfl rfl d_p10m1_73 ?_
    refine lv_bipush (v := nI 64) hx hb d_p10m1_76 (by decide) ?_
    refine pd_imul hx hb d_p10m1_78 ?_
    refine lv_aload_n hx hb d_p10m1_79 rfl (lv_at hl 1 rfl) ?_
    refine pd_get X w f123 rfl 1 (by decide) mT_881 rfl rfl d_p10m1_80 ?_
    refine pd_cV (a := r41) (As := []) (rest := [.int (nI (r19 * 64)), .ref x]) X w f127 rfl (c_String_length l G h121 (by assumption)) ok_String_length ⟨mT_93, mT_94⟩ mT_761 ⟨by decide, by decide⟩ rfl hl.1 rfl (Nat.le_of_ble_eq_true rfl) d_p10m1_83 ⟨by decide, by decide⟩ (fun r137 h138 H locs hp139 w => ?_)
    refine W.widen (k := 10) (n := 320) (by decide) (by decide) ?_
    obtain ⟨e140, rfl⟩ := hp139
    refine pd_iadd hx hb d_p10m1_86 ?_
    refine lv_iconst (v := nI 4) hx hb d_p10m1_87 (by decide) ?_
    refine pd_imul hx hb d_p10m1_88 ?_
    refine lv_aload_n hx hb d_p10m1_89 rfl (lv_at hl 1 rfl) ?_
    refine pd_get X w f123 rfl 2 (by decide) mT_882 rfl rfl d_p10m1_90 ?_
    refine pd_iadd hx hb d_p10m1_93 ?_
    refine pd_putF (ty := .int) X w f123 hz_x rfl 4 (by decide) mT_884 rfl rfl hmn rfl (by decide +kernel) rfl rfl (Nat.le_of_ble_eq_true rfl) d_p10m1_94 (fun H locs w => ?_)
    have w : pd_w G s H locs (pd_up h121 x (18, .inr (7, [.int (nI r19), .ref r41, .int (nI 0), .ref r75, .int (nI ((((r19 * 64) + r137) * 4) + 0))]))) := w
    obtain ⟨h141, u144⟩ : ∃ z, z = pd_up h121 x (18, .inr (7, [.int (nI r19), .ref r41, .int (nI 0), .ref r75, .int (nI ((((r19 * 64) + r137) * 4) + 0))])) := ⟨_, rfl⟩
    rw [← u144] at w
    have k142 : pd_kq x h121 h141 := by rw [u144]; exact pd_up_kq
    have f143 : h141 x = some (18, .inr (7, [.int (nI r19), .ref r41, .int (nI 0), .ref r75, .int (nI ((((r19 * 64) + r137) * 4) + 0))])) := by rw [u144]; exact pd_up_s _ _ _
    have f145 := k142 _ _ (pd_ne f125 f123 (by simp)) f125
    have f146 := k142 _ _ (pd_ne f126 f123 (by simp)) f126
    have f147 := k142 _ _ (pd_ne f127 f123 (by simp)) f127
    have f148 := k142 _ _ (pd_ne f128 f123 (by simp)) f128
    have f149 := k142 _ _ (pd_ne f129 f123 (by simp)) f129
    have f150 := k142 _ _ (pd_ne f130 f123 (by simp)) f130
    have f151 := k142 _ _ (pd_ne f131 f123 (by simp)) f131
    have f152 := k142 _ _ (pd_ne f132 f123 (by simp)) f132
    have f153 : pd_Str h141 a cs := ⟨_, _, f145, f149, hvf, hvc, hvl⟩
    have f154 : pd_Str h141 r1 ds5 := ⟨_, _, f146, f150, gf12, gc13, gl14⟩
    have f155 : pd_Str h141 r41 ds45 := ⟨_, _, f147, f151, gf52, gc53, gl54⟩
    have f156 : pd_Str h141 r75 ds79 := ⟨_, _, f148, f152, gf86, gc87, gl88⟩
    have E1 : gr_rch cs = r19 := by unfold gr_rch; rw [← e6, ← e22]
    have E2 : gr_pn cs = ds45 := by unfold gr_pn; rw [E1, ← e6, ← e46]
    have E3 : gr_bh cs = 0 := by unfold gr_bh; rw [if_pos e118.symm]
    have E4 : gr_rank cs = (((r19 * 64) + r137) * 4) + 0 := by unfold gr_rank; rw [E1, E2, E3, ← e140]
    exact pd_vret X w ⟨pd_kx.tr (pd_kx.tr (pd_kx.tr (pd_kx.tr (pd_kx.tr (pd_kx.tr (pd_kx.tr (pd_kx.mono (us := [18]) (pd_kx.tr (k4) (k23)) (by simp)) (pd_kq.kx (k32) f25)) (pd_kx.mono (us := [18]) (k44) (by simp))) (pd_kq.kx (k63) f57)) (pd_kx.mono (us := [18]) (k78) (by simp))) (pd_kq.kx (k100) f92)) (pd_kq.kx (k122) f101)) (pd_kq.kx (k142) f123), r41, r75, (by rw [E1, E3, E4]; exact f143), (by rw [E2]; exact f155), (by rw [← e80]; exact f156)⟩ (by decide) (by decide) d_p10m1_97
  · -- some: 51
    rw [q119] at e118
    have j120lt := tx_ix_lt e118.symm
    refine lv_aload_n hx hb d_p10m1_51 rfl (lv_at hl 1 rfl) ?_
    refine pd_get X w f101 rfl 3 (by decide) mT_883 rfl rfl d_p10m1_52 ?_
    refine pd_ldc X (List.mem_of_getElem? (i := 19) rfl) d_p10m1_55 ?_
    have L157 : pd_Str h99 (G.2.2.2 59) [42] := pd_litS X w 19 (by decide)
    obtain ⟨v158, g159, f160, f161, gf162, gc163, gl164⟩ := id L157
    refine pd_cV (a := r75) (As := [.ref (G.2.2.2 59)]) (rest := [.ref x]) X w f106 rfl (c_String_equals l G h99 (by assumption) (by assumption)) ok_String_equals ⟨mT_613, mT_614⟩ mT_751 ⟨by decide, by decide⟩ rfl hl.1 rfl (Nat.le_of_ble_eq_true rfl) d_p10m1_57 ⟨by decide, by decide⟩ (fun r165 h166 H locs hp167 w => ?_)
    refine W.widen (k := 10) (n := 320) (by decide) (by decide) ?_
    obtain ⟨e168, rfl⟩ := hp167
    refine pd_beq (tgt := 67) hx hb d_p10m1_60 (by decide) (fun q169 => ?_) (fun q169 => ?_)
    · -- taken: 67
      refine lv_iconst (v := nI 2) hx hb d_p10m1_67 (by decide) ?_
      refine pd_putF (ty := .int) X w f101 hz_x rfl 2 (by decide) mT_882 rfl rfl hmn rfl (by decide +kernel) rfl rfl (Nat.le_of_ble_eq_true rfl) d_p10m1_68 (fun H locs w => ?_)
      have w : pd_w G s H locs (pd_up h99 x (18, .inr (7, [.int (nI r19), .ref r41, .int (nI 2), .ref r75, .int (nI 0)]))) := w
      obtain ⟨h170, u173⟩ : ∃ z, z = pd_up h99 x (18, .inr (7, [.int (nI r19), .ref r41, .int (nI 2), .ref r75, .int (nI 0)])) := ⟨_, rfl⟩
      rw [← u173] at w
      have k171 : pd_kq x h99 h170 := by rw [u173]; exact pd_up_kq
      have f172 : h170 x = some (18, .inr (7, [.int (nI r19), .ref r41, .int (nI 2), .ref r75, .int (nI 0)])) := by rw [u173]; exact pd_up_s _ _ _
      have f174 := k171 _ _ (pd_ne f103 f101 (by simp)) f103
      have f175 := k171 _ _ (pd_ne f104 f101 (by simp)) f104
      have f176 := k171 _ _ (pd_ne f105 f101 (by simp)) f105
      have f177 := k171 _ _ (pd_ne f106 f101 (by simp)) f106
      have f178 := k171 _ _ (pd_ne f160 f101 (by simp)) f160
      have f179 := k171 _ _ (pd_ne f107 f101 (by simp)) f107
      have f180 := k171 _ _ (pd_ne f108 f101 (by simp)) f108
      have f181 := k171 _ _ (pd_ne f109 f101 (by simp)) f109
      have f182 := k171 _ _ (pd_ne f110 f101 (by simp)) f110
      have f183 := k171 _ _ (pd_ne f161 f101 (by simp)) f161
      have f184 : pd_Str h170 a cs := ⟨_, _, f174, f179, hvf, hvc, hvl⟩
      have f185 : pd_Str h170 r1 ds5 := ⟨_, _, f175, f180, gf12, gc13, gl14⟩
      have f186 : pd_Str h170 r41 ds45 := ⟨_, _, f176, f181, gf52, gc53, gl54⟩
      have f187 : pd_Str h170 r75 ds79 := ⟨_, _, f177, f182, gf86, gc87, gl88⟩
      have f188 : pd_Str h170 (G.2.2.2 59) ([42]) := ⟨_, _, f178, f183, gf162, gc163, gl164⟩
      refine lv_aload_n hx hb d_p10m1_71 rfl (lv_at hl 1 rfl) ?_
      refine lv_aload_n hx hb d_p10m1_72 rfl (lv_at hl 1 rfl) ?_
      refine pd_get X w f172 rfl 0 (by decide) mT_880 rfl rfl d_p10m1_73 ?_
      refine lv_bipush (v := nI 64) hx hb d_p10m1_76 (by decide) ?_
      refine pd_imul hx hb d_p10m1_78 ?_
      refine lv_aload_n hx hb d_p10m1_79 rfl (lv_at hl 1 rfl) ?_
      refine pd_get X w f172 rfl 1 (by decide) mT_881 rfl rfl d_p10m1_80 ?_
      refine pd_cV (a := r41) (As := []) (rest := [.int (nI (r19 * 64)), .ref x]) X w f176 rfl (c_String_length l G h170 (by assumption)) ok_String_length ⟨mT_93, mT_94⟩ mT_761 ⟨by decide, by decide⟩ rfl hl.1 rfl (Nat.le_of_ble_eq_true rfl) d_p10m1_83 ⟨by decide, by decide⟩ (fun r189 h190 H locs hp191 w => ?_)
      refine W.widen (k := 10) (n := 320) (by decide) (by decide) ?_
      obtain ⟨e192, rfl⟩ := hp191
      refine pd_iadd hx hb d_p10m1_86 ?_
      refine lv_iconst (v := nI 4) hx hb d_p10m1_87 (by decide) ?_
      refine pd_imul hx hb d_p10m1_88 ?_
      refine lv_aload_n hx hb d_p10m1_89 rfl (lv_at hl 1 rfl) ?_
      refine pd_get X w f172 rfl 2 (by decide) mT_882 rfl rfl d_p10m1_90 ?_
      refine pd_iadd hx hb d_p10m1_93 ?_
      refine pd_putF (ty := .int) X w f172 hz_x rfl 4 (by decide) mT_884 rfl rfl hmn rfl (by decide +kernel) rfl rfl (Nat.le_of_ble_eq_true rfl) d_p10m1_94 (fun H locs w => ?_)
      have w : pd_w G s H locs (pd_up h170 x (18, .inr (7, [.int (nI r19), .ref r41, .int (nI 2), .ref r75, .int (nI ((((r19 * 64) + r189) * 4) + 2))]))) := w
      obtain ⟨h193, u196⟩ : ∃ z, z = pd_up h170 x (18, .inr (7, [.int (nI r19), .ref r41, .int (nI 2), .ref r75, .int (nI ((((r19 * 64) + r189) * 4) + 2))])) := ⟨_, rfl⟩
      rw [← u196] at w
      have k194 : pd_kq x h170 h193 := by rw [u196]; exact pd_up_kq
      have f195 : h193 x = some (18, .inr (7, [.int (nI r19), .ref r41, .int (nI 2), .ref r75, .int (nI ((((r19 * 64) + r189) * 4) + 2))])) := by rw [u196]; exact pd_up_s _ _ _
      have f197 := k194 _ _ (pd_ne f174 f172 (by simp)) f174
      have f198 := k194 _ _ (pd_ne f175 f172 (by simp)) f175
      have f199 := k194 _ _ (pd_ne f176 f172 (by simp)) f176
      have f200 := k194 _ _ (pd_ne f177 f172 (by simp)) f177
      have f201 := k194 _ _ (pd_ne f178 f172 (by simp)) f178
      have f202 := k194 _ _ (pd_ne f179 f172 (by simp)) f179
      have f203 := k194 _ _ (pd_ne f180 f172 (by simp)) f180
      have f204 := k194 _ _ (pd_ne f181 f172 (by simp)) f181
      have f205 := k194 _ _ (pd_ne f182 f172 (by simp)) f182
      have f206 := k194 _ _ (pd_ne f183 f172 (by simp)) f183
      have f207 : pd_Str h193 a cs := ⟨_, _, f197, f202, hvf, hvc, hvl⟩
      have f208 : pd_Str h193 r1 ds5 := ⟨_, _, f198, f203, gf12, gc13, gl14⟩
      have f209 : pd_Str h193 r41 ds45 := ⟨_, _, f199, f204, gf52, gc53, gl54⟩
      have f210 : pd_Str h193 r75 ds79 := ⟨_, _, f200, f205, gf86, gc87, gl88⟩
      have f211 : pd_Str h193 (G.2.2.2 59) ([42]) := ⟨_, _, f201, f206, gf162, gc163, gl164⟩
      have E1 : gr_rch cs = r19 := by unfold gr_rch; rw [← e6, ← e22]
      have E2 : gr_pn cs = ds45 := by unfold gr_pn; rw [E1, ← e6, ← e46]
      have E3 : gr_bh cs = 2 := by unfold gr_bh; rw [if_neg (by rw [← e118]; simp), if_neg (by rw [← e80]; exact of_decide_eq_false (e168.symm.trans q169))]
      have E4 : gr_rank cs = (((r19 * 64) + r189) * 4) + 2 := by unfold gr_rank; rw [E1, E2, E3, ← e192]
      exact pd_vret X w ⟨pd_kx.tr (pd_kx.tr (pd_kx.tr (pd_kx.tr (pd_kx.tr (pd_kx.tr (pd_kx.tr (pd_kx.mono (us := [18]) (pd_kx.tr (k4) (k23)) (by simp)) (pd_kq.kx (k32) f25)) (pd_kx.mono (us := [18]) (k44) (by simp))) (pd_kq.kx (k63) f57)) (pd_kx.mono (us := [18]) (k78) (by simp))) (pd_kq.kx (k100) f92)) (pd_kq.kx (k171) f101)) (pd_kq.kx (k194) f172), r41, r75, (by rw [E1, E3, E4]; exact f195), (by rw [E2]; exact f209), (by rw [← e80]; exact f210)⟩ (by decide) (by decide) d_p10m1_97
    · -- not taken: 63
      refine lv_iconst (v := nI 1) hx hb d_p10m1_63 (by decide) ?_
      refine lv_goto (tgt := 68) hx hb d_p10m1_64 (by decide) ?_
      refine pd_putF (ty := .int) X w f101 hz_x rfl 2 (by decide) mT_882 rfl rfl hmn rfl (by decide +kernel) rfl rfl (Nat.le_of_ble_eq_true rfl) d_p10m1_68 (fun H locs w => ?_)
      have w : pd_w G s H locs (pd_up h99 x (18, .inr (7, [.int (nI r19), .ref r41, .int (nI 1), .ref r75, .int (nI 0)]))) := w
      obtain ⟨h212, u215⟩ : ∃ z, z = pd_up h99 x (18, .inr (7, [.int (nI r19), .ref r41, .int (nI 1), .ref r75, .int (nI 0)])) := ⟨_, rfl⟩
      rw [← u215] at w
      have k213 : pd_kq x h99 h212 := by rw [u215]; exact pd_up_kq
      have f214 : h212 x = some (18, .inr (7, [.int (nI r19), .ref r41, .int (nI 1), .ref r75, .int (nI 0)])) := by rw [u215]; exact pd_up_s _ _ _
      have f216 := k213 _ _ (pd_ne f103 f101 (by simp)) f103
      have f217 := k213 _ _ (pd_ne f104 f101 (by simp)) f104
      have f218 := k213 _ _ (pd_ne f105 f101 (by simp)) f105
      have f219 := k213 _ _ (pd_ne f106 f101 (by simp)) f106
      have f220 := k213 _ _ (pd_ne f160 f101 (by simp)) f160
      have f221 := k213 _ _ (pd_ne f107 f101 (by simp)) f107
      have f222 := k213 _ _ (pd_ne f108 f101 (by simp)) f108
      have f223 := k213 _ _ (pd_ne f109 f101 (by simp)) f109
      have f224 := k213 _ _ (pd_ne f110 f101 (by simp)) f110
      have f225 := k213 _ _ (pd_ne f161 f101 (by simp)) f161
      have f226 : pd_Str h212 a cs := ⟨_, _, f216, f221, hvf, hvc, hvl⟩
      have f227 : pd_Str h212 r1 ds5 := ⟨_, _, f217, f222, gf12, gc13, gl14⟩
      have f228 : pd_Str h212 r41 ds45 := ⟨_, _, f218, f223, gf52, gc53, gl54⟩
      have f229 : pd_Str h212 r75 ds79 := ⟨_, _, f219, f224, gf86, gc87, gl88⟩
      have f230 : pd_Str h212 (G.2.2.2 59) ([42]) := ⟨_, _, f220, f225, gf162, gc163, gl164⟩
      refine lv_aload_n hx hb d_p10m1_71 rfl (lv_at hl 1 rfl) ?_
      refine lv_aload_n hx hb d_p10m1_72 rfl (lv_at hl 1 rfl) ?_
      refine pd_get X w f214 rfl 0 (by decide) mT_880 rfl rfl d_p10m1_73 ?_
      refine lv_bipush (v := nI 64) hx hb d_p10m1_76 (by decide) ?_
      refine pd_imul hx hb d_p10m1_78 ?_
      refine lv_aload_n hx hb d_p10m1_79 rfl (lv_at hl 1 rfl) ?_
      refine pd_get X w f214 rfl 1 (by decide) mT_881 rfl rfl d_p10m1_80 ?_
      refine pd_cV (a := r41) (As := []) (rest := [.int (nI (r19 * 64)), .ref x]) X w f218 rfl (c_String_length l G h212 (by assumption)) ok_String_length ⟨mT_93, mT_94⟩ mT_761 ⟨by decide, by decide⟩ rfl hl.1 rfl (Nat.le_of_ble_eq_true rfl) d_p10m1_83 ⟨by decide, by decide⟩ (fun r231 h232 H locs hp233 w => ?_)
      refine W.widen (k := 10) (n := 320) (by decide) (by decide) ?_
      obtain ⟨e234, rfl⟩ := hp233
      refine pd_iadd hx hb d_p10m1_86 ?_
      refine lv_iconst (v := nI 4) hx hb d_p10m1_87 (by decide) ?_
      refine pd_imul hx hb d_p10m1_88 ?_
      refine lv_aload_n hx hb d_p10m1_89 rfl (lv_at hl 1 rfl) ?_
      refine pd_get X w f214 rfl 2 (by decide) mT_882 rfl rfl d_p10m1_90 ?_
      refine pd_iadd hx hb d_p10m1_93 ?_
      refine pd_putF (ty := .int) X w f214 hz_x rfl 4 (by decide) mT_884 rfl rfl hmn rfl (by decide +kernel) rfl rfl (Nat.le_of_ble_eq_true rfl) d_p10m1_94 (fun H locs w => ?_)
      have w : pd_w G s H locs (pd_up h212 x (18, .inr (7, [.int (nI r19), .ref r41, .int (nI 1), .ref r75, .int (nI ((((r19 * 64) + r231) * 4) + 1))]))) := w
      obtain ⟨h235, u238⟩ : ∃ z, z = pd_up h212 x (18, .inr (7, [.int (nI r19), .ref r41, .int (nI 1), .ref r75, .int (nI ((((r19 * 64) + r231) * 4) + 1))])) := ⟨_, rfl⟩
      rw [← u238] at w
      have k236 : pd_kq x h212 h235 := by rw [u238]; exact pd_up_kq
      have f237 : h235 x = some (18, .inr (7, [.int (nI r19), .ref r41, .int (nI 1), .ref r75, .int (nI ((((r19 * 64) + r231) * 4) + 1))])) := by rw [u238]; exact pd_up_s _ _ _
      have f239 := k236 _ _ (pd_ne f216 f214 (by simp)) f216
      have f240 := k236 _ _ (pd_ne f217 f214 (by simp)) f217
      have f241 := k236 _ _ (pd_ne f218 f214 (by simp)) f218
      have f242 := k236 _ _ (pd_ne f219 f214 (by simp)) f219
      have f243 := k236 _ _ (pd_ne f220 f214 (by simp)) f220
      have f244 := k236 _ _ (pd_ne f221 f214 (by simp)) f221
      have f245 := k236 _ _ (pd_ne f222 f214 (by simp)) f222
      have f246 := k236 _ _ (pd_ne f223 f214 (by simp)) f223
      have f247 := k236 _ _ (pd_ne f224 f214 (by simp)) f224
      have f248 := k236 _ _ (pd_ne f225 f214 (by simp)) f225
      have f249 : pd_Str h235 a cs := ⟨_, _, f239, f244, hvf, hvc, hvl⟩
      have f250 : pd_Str h235 r1 ds5 := ⟨_, _, f240, f245, gf12, gc13, gl14⟩
      have f251 : pd_Str h235 r41 ds45 := ⟨_, _, f241, f246, gf52, gc53, gl54⟩
      have f252 : pd_Str h235 r75 ds79 := ⟨_, _, f242, f247, gf86, gc87, gl88⟩
      have f253 : pd_Str h235 (G.2.2.2 59) ([42]) := ⟨_, _, f243, f248, gf162, gc163, gl164⟩
      have E1 : gr_rch cs = r19 := by unfold gr_rch; rw [← e6, ← e22]
      have E2 : gr_pn cs = ds45 := by unfold gr_pn; rw [E1, ← e6, ← e46]
      have E3 : gr_bh cs = 1 := by unfold gr_bh; rw [if_neg (by rw [← e118]; simp), if_pos (by rw [← e80]; exact of_decide_eq_true (e168.symm.trans q169))]
      have E4 : gr_rank cs = (((r19 * 64) + r231) * 4) + 1 := by unfold gr_rank; rw [E1, E2, E3, ← e234]
      exact pd_vret X w ⟨pd_kx.tr (pd_kx.tr (pd_kx.tr (pd_kx.tr (pd_kx.tr (pd_kx.tr (pd_kx.tr (pd_kx.mono (us := [18]) (pd_kx.tr (k4) (k23)) (by simp)) (pd_kq.kx (k32) f25)) (pd_kx.mono (us := [18]) (k44) (by simp))) (pd_kq.kx (k63) f57)) (pd_kx.mono (us := [18]) (k78) (by simp))) (pd_kq.kx (k100) f92)) (pd_kq.kx (k213) f101)) (pd_kq.kx (k236) f214), r41, r75, (by rw [E1, E3, E4]; exact f237), (by rw [E2]; exact f251), (by rw [← e80]; exact f252)⟩ (by decide) (by decide) d_p10m1_97
theorem d_p10m4_0 : decode prog_10_method_4_code 0 = .ok (.aload_n 0, 1) := by decide +kernel
theorem d_p10m4_1 : decode prog_10_method_4_code 1 = .ok (.getfield 49, 3) := by decide +kernel
theorem d_p10m4_4 : decode prog_10_method_4_code 4 = .ok (.iconst 2, 1) := by decide +kernel
theorem d_p10m4_5 : decode prog_10_method_4_code 5 = .ok (.if_icmp .ne 7, 3) := by decide +kernel
theorem d_p10m4_8 : decode prog_10_method_4_code 8 = .ok (.iconst 1, 1) := by decide +kernel
theorem d_p10m4_9 : decode prog_10_method_4_code 9 = .ok (.goto 4, 3) := by decide +kernel
theorem d_p10m4_12 : decode prog_10_method_4_code 12 = .ok (.iconst 0, 1) := by decide +kernel
theorem d_p10m4_13 : decode prog_10_method_4_code 13 = .ok (.ireturn, 1) := by decide +kernel
abbrev y_Pattern_namesMember : MethodName := ⟨"PolicyDesk$Pattern", "namesMember", "()Z"⟩
theorem ok_Pattern_namesMember : pd_ok y_Pattern_namesMember prog_10_method_4_code 1 (some .boolean) 0 := ⟨mT_975, mT_28, by decide, by decide +kernel⟩
abbrev rm_Pattern_namesMember : Room := { frames := 0, cells := 0, slots := 0, locals := 0 }
set_option maxHeartbeats 4000000 in
set_option maxRecDepth 100000 in
theorem c_Pattern_namesMember (l : Launch) (G : pd_G) (h : pd_H) {x : Nat} {w0 : List Nat} (hP : pd_Pat h x 0 w0) : pd_M l y_Pattern_namesMember prog_10_method_4_code 1 (some .boolean) rm_Pattern_namesMember G h [.ref x] pd_vb (fun r h1 => r = decide (gr_bh w0 = 2) ∧ h = h1) := by
  refine pd_M.of (by decide) (Nat.le_of_ble_eq_true rfl) ?_
  intro p e s m below meth c X hmn w ls hl
  have hx := X.1
  have hb := X.2.1
  have hl : lv_has ls 1 [(0, .ref x)] := hl
  refine lv_aload_n hx hb d_p10m4_0 rfl (lv_at hl 0 rfl) ?_
  obtain ⟨nm1, mn2, f3, f4, f5⟩ := id hP
  obtain ⟨v6, g7, f8, f9, gf10, gc11, gl12⟩ := id f4
  obtain ⟨v13, g14, f15, f16, gf17, gc18, gl19⟩ := id f5
  have nm1rl := gr_rank_lt gl12
  have nm1bl := gr_bh_le w0
  have nm1cl := gr_rch_le w0
  refine pd_get X w f3 rfl 2 (by decide) mT_882 rfl rfl d_p10m4_1 ?_
  refine lv_iconst (v := nI 2) hx hb d_p10m4_4 (by decide) ?_
  refine pd_jne (tgt := 12) hx hb d_p10m4_5 (by decide) (by omega) (by omega) (fun q20 => ?_) (fun q20 => ?_)
  · -- taken: 12
    refine lv_iconst (v := nI 0) hx hb d_p10m4_12 (by decide) ?_
    refine W.eq (g2 := F0 m 13 ls [.int (pd_b false)]) rfl ?_
    exact pd_zret (v := false) X w ⟨(decide_eq_false (by omega)).symm, rfl⟩ (by decide) (by decide) d_p10m4_13
  · -- not taken: 8
    refine lv_iconst (v := nI 1) hx hb d_p10m4_8 (by decide) ?_
    refine lv_goto (tgt := 13) hx hb d_p10m4_9 (by decide) ?_
    refine W.eq (g2 := F0 m 13 ls [.int (pd_b true)]) rfl ?_
    exact pd_zret (v := true) X w ⟨(decide_eq_true (by omega)).symm, rfl⟩ (by decide) (by decide) d_p10m4_13
theorem d_p10m5_0 : decode prog_10_method_5_code 0 = .ok (.aload_n 0, 1) := by decide +kernel
theorem d_p10m5_1 : decode prog_10_method_5_code 1 = .ok (.getfield 49, 3) := by decide +kernel
theorem d_p10m5_4 : decode prog_10_method_5_code 4 = .ok (.ifCond .eq 9, 3) := by decide +kernel
theorem d_p10m5_7 : decode prog_10_method_5_code 7 = .ok (.aload_n 2, 1) := by decide +kernel
theorem d_p10m5_8 : decode prog_10_method_5_code 8 = .ok (.ifnonnull 5, 3) := by decide +kernel
theorem d_p10m5_11 : decode prog_10_method_5_code 11 = .ok (.iconst 0, 1) := by decide +kernel
theorem d_p10m5_12 : decode prog_10_method_5_code 12 = .ok (.ireturn, 1) := by decide +kernel
theorem d_p10m5_13 : decode prog_10_method_5_code 13 = .ok (.aload_n 0, 1) := by decide +kernel
theorem d_p10m5_14 : decode prog_10_method_5_code 14 = .ok (.getfield 49, 3) := by decide +kernel
theorem d_p10m5_17 : decode prog_10_method_5_code 17 = .ok (.iconst 2, 1) := by decide +kernel
theorem d_p10m5_18 : decode prog_10_method_5_code 18 = .ok (.if_icmp .ne 19, 3) := by decide +kernel
theorem d_p10m5_21 : decode prog_10_method_5_code 21 = .ok (.aload_n 2, 1) := by decide +kernel
theorem d_p10m5_22 : decode prog_10_method_5_code 22 = .ok (.getfield 75, 3) := by decide +kernel
theorem d_p10m5_25 : decode prog_10_method_5_code 25 = .ok (.aload_n 0, 1) := by decide +kernel
theorem d_p10m5_26 : decode prog_10_method_5_code 26 = .ok (.getfield 34, 3) := by decide +kernel
theorem d_p10m5_29 : decode prog_10_method_5_code 29 = .ok (.invokevirtual 45, 3) := by decide +kernel
theorem d_p10m5_32 : decode prog_10_method_5_code 32 = .ok (.ifCond .ne 5, 3) := by decide +kernel
theorem d_p10m5_35 : decode prog_10_method_5_code 35 = .ok (.iconst 0, 1) := by decide +kernel
theorem d_p10m5_36 : decode prog_10_method_5_code 36 = .ok (.ireturn, 1) := by decide +kernel
theorem d_p10m5_37 : decode prog_10_method_5_code 37 = .ok (.aload_n 0, 1) := by decide +kernel
theorem d_p10m5_38 : decode prog_10_method_5_code 38 = .ok (.getfield 19, 3) := by decide +kernel
theorem d_p10m5_41 : decode prog_10_method_5_code 41 = .ok (.tableswitch 102 0 2 #[27, 29, 68], 27) := by decide +kernel
theorem d_p10m5_68 : decode prog_10_method_5_code 68 = .ok (.iconst 1, 1) := by decide +kernel
theorem d_p10m5_69 : decode prog_10_method_5_code 69 = .ok (.ireturn, 1) := by decide +kernel
theorem d_p10m5_70 : decode prog_10_method_5_code 70 = .ok (.aload_n 1, 1) := by decide +kernel
theorem d_p10m5_71 : decode prog_10_method_5_code 71 = .ok (.getfield 78, 3) := by decide +kernel
theorem d_p10m5_74 : decode prog_10_method_5_code 74 = .ok (.aload_n 0, 1) := by decide +kernel
theorem d_p10m5_75 : decode prog_10_method_5_code 75 = .ok (.getfield 27, 3) := by decide +kernel
theorem d_p10m5_78 : decode prog_10_method_5_code 78 = .ok (.invokevirtual 52, 3) := by decide +kernel
theorem d_p10m5_81 : decode prog_10_method_5_code 81 = .ok (.bipush 47, 2) := by decide +kernel
theorem d_p10m5_83 : decode prog_10_method_5_code 83 = .ok (.invokestatic 81, 3) := by decide +kernel
theorem d_p10m5_86 : decode prog_10_method_5_code 86 = .ok (.ifCond .eq 21, 3) := by decide +kernel
theorem d_p10m5_89 : decode prog_10_method_5_code 89 = .ok (.aload_n 1, 1) := by decide +kernel
theorem d_p10m5_90 : decode prog_10_method_5_code 90 = .ok (.getfield 78, 3) := by decide +kernel
theorem d_p10m5_93 : decode prog_10_method_5_code 93 = .ok (.aload_n 0, 1) := by decide +kernel
theorem d_p10m5_94 : decode prog_10_method_5_code 94 = .ok (.getfield 27, 3) := by decide +kernel
theorem d_p10m5_97 : decode prog_10_method_5_code 97 = .ok (.invokestatic 85, 3) := by decide +kernel
theorem d_p10m5_100 : decode prog_10_method_5_code 100 = .ok (.ifCond .eq 7, 3) := by decide +kernel
theorem d_p10m5_103 : decode prog_10_method_5_code 103 = .ok (.iconst 1, 1) := by decide +kernel
theorem d_p10m5_104 : decode prog_10_method_5_code 104 = .ok (.goto 4, 3) := by decide +kernel
theorem d_p10m5_107 : decode prog_10_method_5_code 107 = .ok (.iconst 0, 1) := by decide +kernel
theorem d_p10m5_108 : decode prog_10_method_5_code 108 = .ok (.ireturn, 1) := by decide +kernel
theorem d_p10m5_109 : decode prog_10_method_5_code 109 = .ok (.aload_n 1, 1) := by decide +kernel
theorem d_p10m5_110 : decode prog_10_method_5_code 110 = .ok (.getfield 88, 3) := by decide +kernel
theorem d_p10m5_113 : decode prog_10_method_5_code 113 = .ok (.aload_n 0, 1) := by decide +kernel
theorem d_p10m5_114 : decode prog_10_method_5_code 114 = .ok (.getfield 27, 3) := by decide +kernel
theorem d_p10m5_117 : decode prog_10_method_5_code 117 = .ok (.invokevirtual 52, 3) := by decide +kernel
theorem d_p10m5_120 : decode prog_10_method_5_code 120 = .ok (.if_icmp .ne 21, 3) := by decide +kernel
theorem d_p10m5_123 : decode prog_10_method_5_code 123 = .ok (.aload_n 1, 1) := by decide +kernel
theorem d_p10m5_124 : decode prog_10_method_5_code 124 = .ok (.getfield 78, 3) := by decide +kernel
theorem d_p10m5_127 : decode prog_10_method_5_code 127 = .ok (.aload_n 0, 1) := by decide +kernel
theorem d_p10m5_128 : decode prog_10_method_5_code 128 = .ok (.getfield 27, 3) := by decide +kernel
theorem d_p10m5_131 : decode prog_10_method_5_code 131 = .ok (.invokestatic 85, 3) := by decide +kernel
theorem d_p10m5_134 : decode prog_10_method_5_code 134 = .ok (.ifCond .eq 7, 3) := by decide +kernel
theorem d_p10m5_137 : decode prog_10_method_5_code 137 = .ok (.iconst 1, 1) := by decide +kernel
theorem d_p10m5_138 : decode prog_10_method_5_code 138 = .ok (.goto 4, 3) := by decide +kernel
theorem d_p10m5_141 : decode prog_10_method_5_code 141 = .ok (.iconst 0, 1) := by decide +kernel
theorem d_p10m5_142 : decode prog_10_method_5_code 142 = .ok (.ireturn, 1) := by decide +kernel
theorem d_p10m5_143 : decode prog_10_method_5_code 143 = .ok (.aload_n 1, 1) := by decide +kernel
theorem d_p10m5_144 : decode prog_10_method_5_code 144 = .ok (.getfield 78, 3) := by decide +kernel
theorem d_p10m5_147 : decode prog_10_method_5_code 147 = .ok (.aload_n 0, 1) := by decide +kernel
theorem d_p10m5_148 : decode prog_10_method_5_code 148 = .ok (.getfield 27, 3) := by decide +kernel
theorem d_p10m5_151 : decode prog_10_method_5_code 151 = .ok (.invokevirtual 45, 3) := by decide +kernel
theorem d_p10m5_154 : decode prog_10_method_5_code 154 = .ok (.ireturn, 1) := by decide +kernel
abbrev y_Pattern_fits : MethodName := ⟨"PolicyDesk$Pattern", "fits", "(LPolicyDesk$ClassRow;LPolicyDesk$MemberRow;)Z"⟩
theorem ok_Pattern_fits : pd_ok y_Pattern_fits prog_10_method_5_code 3 (some .boolean) 2 := ⟨mT_955, mT_28, by decide, by decide +kernel⟩
abbrev rm_Pattern_fits : Room := { frames := 5, cells := 0, slots := 0, locals := 107 }
set_option maxHeartbeats 4000000 in
set_option maxRecDepth 100000 in
theorem c_Pattern_fits (l : Launch) (G : pd_G) (h : pd_H) {x : Nat} {w0 : List Nat} {A : Nat → Nat} {n : Nat} {R : Nat → pd_cr} {B : Nat → Nat} {k : Nat} {M : Nat → pd_mr} {j : Nat} {o : Option Nat} (hP : pd_Pat h x 0 w0) (hR : pd_Rows G h A n R) (hMR : pd_MRows h A n B k M) (hjn : j < n) (ho : ∀ t, o = some t → t < k) : pd_M l y_Pattern_fits prog_10_method_5_code 3 (some .boolean) rm_Pattern_fits G h [.ref x, .ref (A j), va_rf (o.map B)] pd_vb (fun r h1 => r = gr_fits R M w0 j o ∧ h = h1) := by
  refine pd_M.of (by decide) (by cases o <;> exact Nat.le_of_ble_eq_true rfl) ?_
  intro p e s m below meth c X hmn w ls hl
  have hx := X.1
  have hb := X.2.1
  have hl : lv_has ls 3 [(0, .ref x), (1, .ref (A j)), (2, va_rf (o.map B))] := by simp only [lv_args, pd_cat] at hl; simpa [Value.category] using hl
  have hcw := hR.2.2
  have hAi := hR.2.1
  have hn14 := hcw.1
  refine lv_aload_n hx hb d_p10m5_0 rfl (lv_at hl 0 rfl) ?_
  obtain ⟨nm1, mn2, f3, f4, f5⟩ := id hP
  obtain ⟨v6, g7, f8, f9, gf10, gc11, gl12⟩ := id f4
  obtain ⟨v13, g14, f15, f16, gf17, gc18, gl19⟩ := id f5
  have nm1rl := gr_rank_lt gl12
  have nm1bl := gr_bh_le w0
  have nm1cl := gr_rch_le w0
  refine pd_get X w f3 rfl 2 (by decide) mT_882 rfl rfl d_p10m5_1 ?_
  refine pd_zeq (tgt := 13) hx hb d_p10m5_4 (by decide) (by omega) (fun q20 => ?_) (fun q20 => ?_)
  · -- taken: 13
    refine lv_aload_n hx hb d_p10m5_13 rfl (lv_at hl 0 rfl) ?_
    refine pd_get X w f3 rfl 2 (by decide) mT_882 rfl rfl d_p10m5_14 ?_
    refine lv_iconst (v := nI 2) hx hb d_p10m5_17 (by decide) ?_
    refine pd_jne (tgt := 37) hx hb d_p10m5_18 (by decide) (by omega) (by omega) (fun q21 => ?_) (fun q21 => ?_)
    · -- taken: 37
      have hft : gr_ftm M w0 o = true := by unfold gr_ftm; rw [if_pos (by omega)]
      refine lv_aload_n hx hb d_p10m5_37 rfl (lv_at hl 0 rfl) ?_
      refine pd_get X w f3 rfl 0 (by decide) mT_880 rfl rfl d_p10m5_38 ?_
      rcases (show gr_rch w0 = 0 ∨ gr_rch w0 = 1 ∨ gr_rch w0 = 2 ∨ 2 < gr_rch w0 by omega) with z22 | z22 | z22 | z22
      · -- case 0: 68
        refine lv_tableIn (tgt := 68) hx hb d_p10m5_41 (by rw [z22]; decide) (by rw [z22]; decide) (by rw [z22]; rfl) (by decide) ?_
        refine lv_iconst (v := nI 1) hx hb d_p10m5_68 (by decide) ?_
        refine W.eq (g2 := F0 m 69 ls [.int (pd_b true)]) rfl ?_
        exact pd_zret (v := true) X w ⟨by unfold gr_fits gr_fcl; rw [hft, if_pos z22]; rfl, rfl⟩ (by decide) (by decide) d_p10m5_69
      · -- case 1: 70
        refine lv_tableIn (tgt := 70) hx hb d_p10m5_41 (by rw [z22]; decide) (by rw [z22]; decide) (by rw [z22]; rfl) (by decide) ?_
        refine lv_aload_n hx hb d_p10m5_70 rfl (lv_at hl 1 rfl) ?_
        obtain ⟨nm23, fx24, f25, f26, f27⟩ := hR.1 j (by omega)
        obtain ⟨v28, g29, f30, f31, gf32, gc33, gl34⟩ := id f26
        obtain ⟨v35, cap36, g37, f38, z39, z40, z41, z42, z43⟩ := id f27
        refine pd_get X w f25 rfl 1 (by decide) mT_257 rfl rfl d_p10m5_71 ?_
        refine lv_aload_n hx hb d_p10m5_74 rfl (lv_at hl 0 rfl) ?_
        refine pd_get X w f3 rfl 1 (by decide) mT_881 rfl rfl d_p10m5_75 ?_
        refine pd_cV (a := nm1) (As := []) (rest := [.ref nm23]) X w f8 rfl (c_String_length l G h (by assumption)) ok_String_length ⟨mT_93, mT_94⟩ mT_761 ⟨by decide, by decide⟩ rfl hl.1 rfl (Nat.le_of_ble_eq_true rfl) d_p10m5_78 ⟨by decide, by decide⟩ (fun r44 h45 H locs hp46 w => ?_)
        refine W.widen (k := 0) (n := 0) (by decide) (by decide) ?_
        obtain ⟨e47, rfl⟩ := hp46
        refine lv_bipush (v := nI 47) hx hb d_p10m5_81 (by decide) ?_
        refine pd_cS (As := [.ref nm23, .int (nI r44), .int (nI 47)]) (rest := []) X w (c_Grammar_isAt l G h (by assumption) (by omega) (by omega)) ok_Grammar_isAt mT_741 mT_956 ⟨by decide, by decide⟩ rfl hl.1 rfl (Nat.le_of_ble_eq_true rfl) d_p10m5_83 ⟨by decide, by decide⟩ (fun r48 h49 H locs hp50 w => ?_)
        refine W.widen (k := 0) (n := 0) (by decide) (by decide) ?_
        obtain ⟨e51, rfl⟩ := hp50
        refine pd_beq (tgt := 107) hx hb d_p10m5_86 (by decide) (fun q52 => ?_) (fun q52 => ?_)
        · -- taken: 107
          refine lv_iconst (v := nI 0) hx hb d_p10m5_107 (by decide) ?_
          refine W.eq (g2 := F0 m 108 ls [.int (pd_b false)]) rfl ?_
          exact pd_zret (v := false) X w ⟨by unfold gr_fits gr_fcl; rw [hft, if_neg (by omega), if_pos z22, ← e47, ← e51, q52]; rfl, rfl⟩ (by decide) (by decide) d_p10m5_108
        · -- not taken: 89
          refine lv_aload_n hx hb d_p10m5_89 rfl (lv_at hl 1 rfl) ?_
          refine pd_get X w f25 rfl 1 (by decide) mT_257 rfl rfl d_p10m5_90 ?_
          refine lv_aload_n hx hb d_p10m5_93 rfl (lv_at hl 0 rfl) ?_
          refine pd_get X w f3 rfl 1 (by decide) mT_881 rfl rfl d_p10m5_94 ?_
          refine pd_cS (As := [.ref nm23, .ref nm1]) (rest := []) X w (c_Grammar_startsWith l G h (by assumption) (by assumption)) ok_Grammar_startsWith mT_958 mT_957 ⟨by decide, by decide⟩ rfl hl.1 rfl (Nat.le_of_ble_eq_true rfl) d_p10m5_97 ⟨by decide, by decide⟩ (fun r53 h54 H locs hp55 w => ?_)
          refine W.widen (k := 0) (n := 0) (by decide) (by decide) ?_
          obtain ⟨e56, rfl⟩ := hp55
          refine pd_beq (tgt := 107) hx hb d_p10m5_100 (by decide) (fun q57 => ?_) (fun q57 => ?_)
          · -- taken: 107
            refine lv_iconst (v := nI 0) hx hb d_p10m5_107 (by decide) ?_
            refine W.eq (g2 := F0 m 108 ls [.int (pd_b false)]) rfl ?_
            exact pd_zret (v := false) X w ⟨by unfold gr_fits gr_fcl; rw [hft, if_neg (by omega), if_pos z22, ← e47, ← e51, q52, ← e56, q57]; rfl, rfl⟩ (by decide) (by decide) d_p10m5_108
          · -- not taken: 103
            refine lv_iconst (v := nI 1) hx hb d_p10m5_103 (by decide) ?_
            refine lv_goto (tgt := 108) hx hb d_p10m5_104 (by decide) ?_
            refine W.eq (g2 := F0 m 108 ls [.int (pd_b true)]) rfl ?_
            exact pd_zret (v := true) X w ⟨by unfold gr_fits gr_fcl; rw [hft, if_neg (by omega), if_pos z22, ← e47, ← e51, q52, ← e56, q57]; rfl, rfl⟩ (by decide) (by decide) d_p10m5_108
      · -- case 2: 109
        refine lv_tableIn (tgt := 109) hx hb d_p10m5_41 (by rw [z22]; decide) (by rw [z22]; decide) (by rw [z22]; rfl) (by decide) ?_
        refine lv_aload_n hx hb d_p10m5_109 rfl (lv_at hl 1 rfl) ?_
        obtain ⟨nm58, fx59, f60, f61, f62⟩ := hR.1 j (by omega)
        obtain ⟨v63, g64, f65, f66, gf67, gc68, gl69⟩ := id f61
        obtain ⟨v70, cap71, g72, f73, z74, z75, z76, z77, z78⟩ := id f62
        refine pd_getN X w f60 rfl 8 (by decide) mT_272 rfl rfl d_p10m5_110 ?_
        refine lv_aload_n hx hb d_p10m5_113 rfl (lv_at hl 0 rfl) ?_
        refine pd_get X w f3 rfl 1 (by decide) mT_881 rfl rfl d_p10m5_114 ?_
        refine pd_cV (a := nm1) (As := []) (rest := [.int (pd_m (gr_sl (R j).1))]) X w f8 rfl (c_String_length l G h (by assumption)) ok_String_length ⟨mT_93, mT_94⟩ mT_761 ⟨by decide, by decide⟩ rfl hl.1 rfl (Nat.le_of_ble_eq_true rfl) d_p10m5_117 ⟨by decide, by decide⟩ (fun r79 h80 H locs hp81 w => ?_)
        refine W.widen (k := 0) (n := 0) (by decide) (by decide) ?_
        obtain ⟨e82, rfl⟩ := hp81
        refine lv_icmp_ne (tgt := 141) hx hb d_p10m5_120 (by decide) (fun q83 => ?_) (fun q83 => ?_)
        · -- taken: 141
          refine lv_iconst (v := nI 0) hx hb d_p10m5_141 (by decide) ?_
          refine W.eq (g2 := F0 m 142 ls [.int (pd_b false)]) rfl ?_
          exact pd_zret (v := false) X w ⟨by unfold gr_fits gr_fcl; rw [hft, if_neg (by omega), if_neg (by omega), if_pos z22, ← e82, decide_eq_false (fun h9 => q83 ((pd_mn (by omega) (fun t9 h9 => by have := gr_sl_lt h9; omega)).mpr h9))]; rfl, rfl⟩ (by decide) (by decide) d_p10m5_142
        · -- not taken: 123
          refine lv_aload_n hx hb d_p10m5_123 rfl (lv_at hl 1 rfl) ?_
          refine pd_get X w f60 rfl 1 (by decide) mT_257 rfl rfl d_p10m5_124 ?_
          refine lv_aload_n hx hb d_p10m5_127 rfl (lv_at hl 0 rfl) ?_
          refine pd_get X w f3 rfl 1 (by decide) mT_881 rfl rfl d_p10m5_128 ?_
          refine pd_cS (As := [.ref nm58, .ref nm1]) (rest := []) X w (c_Grammar_startsWith l G h (by assumption) (by assumption)) ok_Grammar_startsWith mT_958 mT_957 ⟨by decide, by decide⟩ rfl hl.1 rfl (Nat.le_of_ble_eq_true rfl) d_p10m5_131 ⟨by decide, by decide⟩ (fun r84 h85 H locs hp86 w => ?_)
          refine W.widen (k := 0) (n := 0) (by decide) (by decide) ?_
          obtain ⟨e87, rfl⟩ := hp86
          refine pd_beq (tgt := 141) hx hb d_p10m5_134 (by decide) (fun q88 => ?_) (fun q88 => ?_)
          · -- taken: 141
            refine lv_iconst (v := nI 0) hx hb d_p10m5_141 (by decide) ?_
            refine W.eq (g2 := F0 m 142 ls [.int (pd_b false)]) rfl ?_
            exact pd_zret (v := false) X w ⟨by unfold gr_fits gr_fcl; rw [hft, if_neg (by omega), if_neg (by omega), if_pos z22, ← e82, decide_eq_true ((pd_mn (by omega) (fun t9 h9 => by have := gr_sl_lt h9; omega)).mp q83), ← e87, q88]; rfl, rfl⟩ (by decide) (by decide) d_p10m5_142
          · -- not taken: 137
            refine lv_iconst (v := nI 1) hx hb d_p10m5_137 (by decide) ?_
            refine lv_goto (tgt := 142) hx hb d_p10m5_138 (by decide) ?_
            refine W.eq (g2 := F0 m 142 ls [.int (pd_b true)]) rfl ?_
            exact pd_zret (v := true) X w ⟨by unfold gr_fits gr_fcl; rw [hft, if_neg (by omega), if_neg (by omega), if_pos z22, ← e82, decide_eq_true ((pd_mn (by omega) (fun t9 h9 => by have := gr_sl_lt h9; omega)).mp q83), ← e87, q88]; rfl, rfl⟩ (by decide) (by decide) d_p10m5_142
      · -- default: 143
        refine lv_tableOut (tgt := 143) hx hb d_p10m5_41 (Or.inr (by rw [nI_toInt (by omega)]; omega)) (by decide) ?_
        refine lv_aload_n hx hb d_p10m5_143 rfl (lv_at hl 1 rfl) ?_
        obtain ⟨nm89, fx90, f91, f92, f93⟩ := hR.1 j (by omega)
        obtain ⟨v94, g95, f96, f97, gf98, gc99, gl100⟩ := id f92
        obtain ⟨v101, cap102, g103, f104, z105, z106, z107, z108, z109⟩ := id f93
        refine pd_get X w f91 rfl 1 (by decide) mT_257 rfl rfl d_p10m5_144 ?_
        refine lv_aload_n hx hb d_p10m5_147 rfl (lv_at hl 0 rfl) ?_
        refine pd_get X w f3 rfl 1 (by decide) mT_881 rfl rfl d_p10m5_148 ?_
        refine pd_cV (a := nm89) (As := [.ref nm1]) (rest := []) X w f96 rfl (c_String_equals l G h (by assumption) (by assumption)) ok_String_equals ⟨mT_613, mT_614⟩ mT_751 ⟨by decide, by decide⟩ rfl hl.1 rfl (Nat.le_of_ble_eq_true rfl) d_p10m5_151 ⟨by decide, by decide⟩ (fun r110 h111 H locs hp112 w => ?_)
        refine W.widen (k := 0) (n := 0) (by decide) (by decide) ?_
        obtain ⟨e113, rfl⟩ := hp112
        exact pd_zret (v := r110) X w ⟨by unfold gr_fits gr_fcl; rw [hft, if_neg (by omega), if_neg (by omega), if_neg (by omega)]; exact e113, rfl⟩ (by decide) (by decide) d_p10m5_154
    · -- not taken: 21
      exfalso
      omega
  · -- not taken: 7
    refine pd_oload_n hx hb d_p10m5_7 rfl (lv_at hl 2 rfl) ?_
    rcases pd_oc o with q114 | ⟨i116, q114⟩
    · -- none
      refine pd_top (v' := .null) (by rw [q114]; rfl) ?_
      rw [q114] at hl
      have hl : lv_has ls 3 [(0, .ref x), (1, .ref (A j)), (2, .null)] := hl
      refine lv_ifnonnullN hx hb d_p10m5_8 ?_
      refine lv_iconst (v := nI 0) hx hb d_p10m5_11 (by decide) ?_
      refine W.eq (g2 := F0 m 12 ls [.int (pd_b false)]) rfl ?_
      exact pd_zret (v := false) X w ⟨by unfold gr_fits gr_ftm; rw [if_neg (by omega), q114]; rfl, rfl⟩ (by decide) (by decide) d_p10m5_12
    · -- some
      refine pd_top (v' := .ref (B i116)) (by rw [q114]; rfl) ?_
      rw [q114] at hl
      have hl : lv_has ls 3 [(0, .ref x), (1, .ref (A j)), (2, .ref (B i116))] := hl
      have i116lt := ho i116 q114
      refine lv_ifnonnull (tgt := 13) hx hb d_p10m5_8 (by decide) ?_
      refine lv_aload_n hx hb d_p10m5_13 rfl (lv_at hl 0 rfl) ?_
      refine pd_get X w f3 rfl 2 (by decide) mT_882 rfl rfl d_p10m5_14 ?_
      refine lv_iconst (v := nI 2) hx hb d_p10m5_17 (by decide) ?_
      refine pd_jne (tgt := 37) hx hb d_p10m5_18 (by decide) (by omega) (by omega) (fun q119 => ?_) (fun q119 => ?_)
      · -- taken: 37
        have hft : gr_ftm M w0 o = true := by unfold gr_ftm; rw [if_neg (by omega), q114]; exact if_neg (by omega)
        refine lv_aload_n hx hb d_p10m5_37 rfl (lv_at hl 0 rfl) ?_
        refine pd_get X w f3 rfl 0 (by decide) mT_880 rfl rfl d_p10m5_38 ?_
        rcases (show gr_rch w0 = 0 ∨ gr_rch w0 = 1 ∨ gr_rch w0 = 2 ∨ 2 < gr_rch w0 by omega) with z120 | z120 | z120 | z120
        · -- case 0: 68
          refine lv_tableIn (tgt := 68) hx hb d_p10m5_41 (by rw [z120]; decide) (by rw [z120]; decide) (by rw [z120]; rfl) (by decide) ?_
          refine lv_iconst (v := nI 1) hx hb d_p10m5_68 (by decide) ?_
          refine W.eq (g2 := F0 m 69 ls [.int (pd_b true)]) rfl ?_
          exact pd_zret (v := true) X w ⟨by unfold gr_fits gr_fcl; rw [hft, if_pos z120]; rfl, rfl⟩ (by decide) (by decide) d_p10m5_69
        · -- case 1: 70
          refine lv_tableIn (tgt := 70) hx hb d_p10m5_41 (by rw [z120]; decide) (by rw [z120]; decide) (by rw [z120]; rfl) (by decide) ?_
          refine lv_aload_n hx hb d_p10m5_70 rfl (lv_at hl 1 rfl) ?_
          obtain ⟨nm121, fx122, f123, f124, f125⟩ := hR.1 j (by omega)
          obtain ⟨v126, g127, f128, f129, gf130, gc131, gl132⟩ := id f124
          obtain ⟨v133, cap134, g135, f136, z137, z138, z139, z140, z141⟩ := id f125
          refine pd_get X w f123 rfl 1 (by decide) mT_257 rfl rfl d_p10m5_71 ?_
          refine lv_aload_n hx hb d_p10m5_74 rfl (lv_at hl 0 rfl) ?_
          refine pd_get X w f3 rfl 1 (by decide) mT_881 rfl rfl d_p10m5_75 ?_
          refine pd_cV (a := nm1) (As := []) (rest := [.ref nm121]) X w f8 rfl (c_String_length l G h (by assumption)) ok_String_length ⟨mT_93, mT_94⟩ mT_761 ⟨by decide, by decide⟩ rfl hl.1 rfl (Nat.le_of_ble_eq_true rfl) d_p10m5_78 ⟨by decide, by decide⟩ (fun r142 h143 H locs hp144 w => ?_)
          refine W.widen (k := 0) (n := 0) (by decide) (by decide) ?_
          obtain ⟨e145, rfl⟩ := hp144
          refine lv_bipush (v := nI 47) hx hb d_p10m5_81 (by decide) ?_
          refine pd_cS (As := [.ref nm121, .int (nI r142), .int (nI 47)]) (rest := []) X w (c_Grammar_isAt l G h (by assumption) (by omega) (by omega)) ok_Grammar_isAt mT_741 mT_956 ⟨by decide, by decide⟩ rfl hl.1 rfl (Nat.le_of_ble_eq_true rfl) d_p10m5_83 ⟨by decide, by decide⟩ (fun r146 h147 H locs hp148 w => ?_)
          refine W.widen (k := 0) (n := 0) (by decide) (by decide) ?_
          obtain ⟨e149, rfl⟩ := hp148
          refine pd_beq (tgt := 107) hx hb d_p10m5_86 (by decide) (fun q150 => ?_) (fun q150 => ?_)
          · -- taken: 107
            refine lv_iconst (v := nI 0) hx hb d_p10m5_107 (by decide) ?_
            refine W.eq (g2 := F0 m 108 ls [.int (pd_b false)]) rfl ?_
            exact pd_zret (v := false) X w ⟨by unfold gr_fits gr_fcl; rw [hft, if_neg (by omega), if_pos z120, ← e145, ← e149, q150]; rfl, rfl⟩ (by decide) (by decide) d_p10m5_108
          · -- not taken: 89
            refine lv_aload_n hx hb d_p10m5_89 rfl (lv_at hl 1 rfl) ?_
            refine pd_get X w f123 rfl 1 (by decide) mT_257 rfl rfl d_p10m5_90 ?_
            refine lv_aload_n hx hb d_p10m5_93 rfl (lv_at hl 0 rfl) ?_
            refine pd_get X w f3 rfl 1 (by decide) mT_881 rfl rfl d_p10m5_94 ?_
            refine pd_cS (As := [.ref nm121, .ref nm1]) (rest := []) X w (c_Grammar_startsWith l G h (by assumption) (by assumption)) ok_Grammar_startsWith mT_958 mT_957 ⟨by decide, by decide⟩ rfl hl.1 rfl (Nat.le_of_ble_eq_true rfl) d_p10m5_97 ⟨by decide, by decide⟩ (fun r151 h152 H locs hp153 w => ?_)
            refine W.widen (k := 0) (n := 0) (by decide) (by decide) ?_
            obtain ⟨e154, rfl⟩ := hp153
            refine pd_beq (tgt := 107) hx hb d_p10m5_100 (by decide) (fun q155 => ?_) (fun q155 => ?_)
            · -- taken: 107
              refine lv_iconst (v := nI 0) hx hb d_p10m5_107 (by decide) ?_
              refine W.eq (g2 := F0 m 108 ls [.int (pd_b false)]) rfl ?_
              exact pd_zret (v := false) X w ⟨by unfold gr_fits gr_fcl; rw [hft, if_neg (by omega), if_pos z120, ← e145, ← e149, q150, ← e154, q155]; rfl, rfl⟩ (by decide) (by decide) d_p10m5_108
            · -- not taken: 103
              refine lv_iconst (v := nI 1) hx hb d_p10m5_103 (by decide) ?_
              refine lv_goto (tgt := 108) hx hb d_p10m5_104 (by decide) ?_
              refine W.eq (g2 := F0 m 108 ls [.int (pd_b true)]) rfl ?_
              exact pd_zret (v := true) X w ⟨by unfold gr_fits gr_fcl; rw [hft, if_neg (by omega), if_pos z120, ← e145, ← e149, q150, ← e154, q155]; rfl, rfl⟩ (by decide) (by decide) d_p10m5_108
        · -- case 2: 109
          refine lv_tableIn (tgt := 109) hx hb d_p10m5_41 (by rw [z120]; decide) (by rw [z120]; decide) (by rw [z120]; rfl) (by decide) ?_
          refine lv_aload_n hx hb d_p10m5_109 rfl (lv_at hl 1 rfl) ?_
          obtain ⟨nm156, fx157, f158, f159, f160⟩ := hR.1 j (by omega)
          obtain ⟨v161, g162, f163, f164, gf165, gc166, gl167⟩ := id f159
          obtain ⟨v168, cap169, g170, f171, z172, z173, z174, z175, z176⟩ := id f160
          refine pd_getN X w f158 rfl 8 (by decide) mT_272 rfl rfl d_p10m5_110 ?_
          refine lv_aload_n hx hb d_p10m5_113 rfl (lv_at hl 0 rfl) ?_
          refine pd_get X w f3 rfl 1 (by decide) mT_881 rfl rfl d_p10m5_114 ?_
          refine pd_cV (a := nm1) (As := []) (rest := [.int (pd_m (gr_sl (R j).1))]) X w f8 rfl (c_String_length l G h (by assumption)) ok_String_length ⟨mT_93, mT_94⟩ mT_761 ⟨by decide, by decide⟩ rfl hl.1 rfl (Nat.le_of_ble_eq_true rfl) d_p10m5_117 ⟨by decide, by decide⟩ (fun r177 h178 H locs hp179 w => ?_)
          refine W.widen (k := 0) (n := 0) (by decide) (by decide) ?_
          obtain ⟨e180, rfl⟩ := hp179
          refine lv_icmp_ne (tgt := 141) hx hb d_p10m5_120 (by decide) (fun q181 => ?_) (fun q181 => ?_)
          · -- taken: 141
            refine lv_iconst (v := nI 0) hx hb d_p10m5_141 (by decide) ?_
            refine W.eq (g2 := F0 m 142 ls [.int (pd_b false)]) rfl ?_
            exact pd_zret (v := false) X w ⟨by unfold gr_fits gr_fcl; rw [hft, if_neg (by omega), if_neg (by omega), if_pos z120, ← e180, decide_eq_false (fun h9 => q181 ((pd_mn (by omega) (fun t9 h9 => by have := gr_sl_lt h9; omega)).mpr h9))]; rfl, rfl⟩ (by decide) (by decide) d_p10m5_142
          · -- not taken: 123
            refine lv_aload_n hx hb d_p10m5_123 rfl (lv_at hl 1 rfl) ?_
            refine pd_get X w f158 rfl 1 (by decide) mT_257 rfl rfl d_p10m5_124 ?_
            refine lv_aload_n hx hb d_p10m5_127 rfl (lv_at hl 0 rfl) ?_
            refine pd_get X w f3 rfl 1 (by decide) mT_881 rfl rfl d_p10m5_128 ?_
            refine pd_cS (As := [.ref nm156, .ref nm1]) (rest := []) X w (c_Grammar_startsWith l G h (by assumption) (by assumption)) ok_Grammar_startsWith mT_958 mT_957 ⟨by decide, by decide⟩ rfl hl.1 rfl (Nat.le_of_ble_eq_true rfl) d_p10m5_131 ⟨by decide, by decide⟩ (fun r182 h183 H locs hp184 w => ?_)
            refine W.widen (k := 0) (n := 0) (by decide) (by decide) ?_
            obtain ⟨e185, rfl⟩ := hp184
            refine pd_beq (tgt := 141) hx hb d_p10m5_134 (by decide) (fun q186 => ?_) (fun q186 => ?_)
            · -- taken: 141
              refine lv_iconst (v := nI 0) hx hb d_p10m5_141 (by decide) ?_
              refine W.eq (g2 := F0 m 142 ls [.int (pd_b false)]) rfl ?_
              exact pd_zret (v := false) X w ⟨by unfold gr_fits gr_fcl; rw [hft, if_neg (by omega), if_neg (by omega), if_pos z120, ← e180, decide_eq_true ((pd_mn (by omega) (fun t9 h9 => by have := gr_sl_lt h9; omega)).mp q181), ← e185, q186]; rfl, rfl⟩ (by decide) (by decide) d_p10m5_142
            · -- not taken: 137
              refine lv_iconst (v := nI 1) hx hb d_p10m5_137 (by decide) ?_
              refine lv_goto (tgt := 142) hx hb d_p10m5_138 (by decide) ?_
              refine W.eq (g2 := F0 m 142 ls [.int (pd_b true)]) rfl ?_
              exact pd_zret (v := true) X w ⟨by unfold gr_fits gr_fcl; rw [hft, if_neg (by omega), if_neg (by omega), if_pos z120, ← e180, decide_eq_true ((pd_mn (by omega) (fun t9 h9 => by have := gr_sl_lt h9; omega)).mp q181), ← e185, q186]; rfl, rfl⟩ (by decide) (by decide) d_p10m5_142
        · -- default: 143
          refine lv_tableOut (tgt := 143) hx hb d_p10m5_41 (Or.inr (by rw [nI_toInt (by omega)]; omega)) (by decide) ?_
          refine lv_aload_n hx hb d_p10m5_143 rfl (lv_at hl 1 rfl) ?_
          obtain ⟨nm187, fx188, f189, f190, f191⟩ := hR.1 j (by omega)
          obtain ⟨v192, g193, f194, f195, gf196, gc197, gl198⟩ := id f190
          obtain ⟨v199, cap200, g201, f202, z203, z204, z205, z206, z207⟩ := id f191
          refine pd_get X w f189 rfl 1 (by decide) mT_257 rfl rfl d_p10m5_144 ?_
          refine lv_aload_n hx hb d_p10m5_147 rfl (lv_at hl 0 rfl) ?_
          refine pd_get X w f3 rfl 1 (by decide) mT_881 rfl rfl d_p10m5_148 ?_
          refine pd_cV (a := nm187) (As := [.ref nm1]) (rest := []) X w f194 rfl (c_String_equals l G h (by assumption) (by assumption)) ok_String_equals ⟨mT_613, mT_614⟩ mT_751 ⟨by decide, by decide⟩ rfl hl.1 rfl (Nat.le_of_ble_eq_true rfl) d_p10m5_151 ⟨by decide, by decide⟩ (fun r208 h209 H locs hp210 w => ?_)
          refine W.widen (k := 0) (n := 0) (by decide) (by decide) ?_
          obtain ⟨e211, rfl⟩ := hp210
          exact pd_zret (v := r208) X w ⟨by unfold gr_fits gr_fcl; rw [hft, if_neg (by omega), if_neg (by omega), if_neg (by omega)]; exact e211, rfl⟩ (by decide) (by decide) d_p10m5_154
      · -- not taken: 21
        refine lv_aload_n hx hb d_p10m5_21 rfl (lv_at hl 2 rfl) ?_
        obtain ⟨⟨nm212, sh213, f214, f215, f216⟩, z217, z218⟩ := hMR i116 (by omega)
        obtain ⟨v219, g220, f221, f222, gf223, gc224, gl225⟩ := id f215
        obtain ⟨v226, g227, f228, f229, gf230, gc231, gl232⟩ := id f216
        refine pd_get X w f214 rfl 2 (by decide) mT_817 rfl rfl d_p10m5_22 ?_
        refine lv_aload_n hx hb d_p10m5_25 rfl (lv_at hl 0 rfl) ?_
        refine pd_get X w f3 rfl 3 (by decide) mT_883 rfl rfl d_p10m5_26 ?_
        refine pd_cV (a := nm212) (As := [.ref mn2]) (rest := []) X w f221 rfl (c_String_equals l G h (by assumption) (by assumption)) ok_String_equals ⟨mT_613, mT_614⟩ mT_751 ⟨by decide, by decide⟩ rfl hl.1 rfl (Nat.le_of_ble_eq_true rfl) d_p10m5_29 ⟨by decide, by decide⟩ (fun r233 h234 H locs hp235 w => ?_)
        refine W.widen (k := 0) (n := 0) (by decide) (by decide) ?_
        obtain ⟨e236, rfl⟩ := hp235
        refine pd_bne (tgt := 37) hx hb d_p10m5_32 (by decide) (fun q237 => ?_) (fun q237 => ?_)
        · -- taken: 37
          have hft : gr_ftm M w0 o = true := by unfold gr_ftm; rw [if_neg (by omega), q114]; exact (if_pos (by omega)).trans (e236.symm.trans q237)
          refine lv_aload_n hx hb d_p10m5_37 rfl (lv_at hl 0 rfl) ?_
          refine pd_get X w f3 rfl 0 (by decide) mT_880 rfl rfl d_p10m5_38 ?_
          rcases (show gr_rch w0 = 0 ∨ gr_rch w0 = 1 ∨ gr_rch w0 = 2 ∨ 2 < gr_rch w0 by omega) with z238 | z238 | z238 | z238
          · -- case 0: 68
            refine lv_tableIn (tgt := 68) hx hb d_p10m5_41 (by rw [z238]; decide) (by rw [z238]; decide) (by rw [z238]; rfl) (by decide) ?_
            refine lv_iconst (v := nI 1) hx hb d_p10m5_68 (by decide) ?_
            refine W.eq (g2 := F0 m 69 ls [.int (pd_b true)]) rfl ?_
            exact pd_zret (v := true) X w ⟨by unfold gr_fits gr_fcl; rw [hft, if_pos z238]; rfl, rfl⟩ (by decide) (by decide) d_p10m5_69
          · -- case 1: 70
            refine lv_tableIn (tgt := 70) hx hb d_p10m5_41 (by rw [z238]; decide) (by rw [z238]; decide) (by rw [z238]; rfl) (by decide) ?_
            refine lv_aload_n hx hb d_p10m5_70 rfl (lv_at hl 1 rfl) ?_
            obtain ⟨nm239, fx240, f241, f242, f243⟩ := hR.1 j (by omega)
            obtain ⟨v244, g245, f246, f247, gf248, gc249, gl250⟩ := id f242
            obtain ⟨v251, cap252, g253, f254, z255, z256, z257, z258, z259⟩ := id f243
            refine pd_get X w f241 rfl 1 (by decide) mT_257 rfl rfl d_p10m5_71 ?_
            refine lv_aload_n hx hb d_p10m5_74 rfl (lv_at hl 0 rfl) ?_
            refine pd_get X w f3 rfl 1 (by decide) mT_881 rfl rfl d_p10m5_75 ?_
            refine pd_cV (a := nm1) (As := []) (rest := [.ref nm239]) X w f8 rfl (c_String_length l G h (by assumption)) ok_String_length ⟨mT_93, mT_94⟩ mT_761 ⟨by decide, by decide⟩ rfl hl.1 rfl (Nat.le_of_ble_eq_true rfl) d_p10m5_78 ⟨by decide, by decide⟩ (fun r260 h261 H locs hp262 w => ?_)
            refine W.widen (k := 0) (n := 0) (by decide) (by decide) ?_
            obtain ⟨e263, rfl⟩ := hp262
            refine lv_bipush (v := nI 47) hx hb d_p10m5_81 (by decide) ?_
            refine pd_cS (As := [.ref nm239, .int (nI r260), .int (nI 47)]) (rest := []) X w (c_Grammar_isAt l G h (by assumption) (by omega) (by omega)) ok_Grammar_isAt mT_741 mT_956 ⟨by decide, by decide⟩ rfl hl.1 rfl (Nat.le_of_ble_eq_true rfl) d_p10m5_83 ⟨by decide, by decide⟩ (fun r264 h265 H locs hp266 w => ?_)
            refine W.widen (k := 0) (n := 0) (by decide) (by decide) ?_
            obtain ⟨e267, rfl⟩ := hp266
            refine pd_beq (tgt := 107) hx hb d_p10m5_86 (by decide) (fun q268 => ?_) (fun q268 => ?_)
            · -- taken: 107
              refine lv_iconst (v := nI 0) hx hb d_p10m5_107 (by decide) ?_
              refine W.eq (g2 := F0 m 108 ls [.int (pd_b false)]) rfl ?_
              exact pd_zret (v := false) X w ⟨by unfold gr_fits gr_fcl; rw [hft, if_neg (by omega), if_pos z238, ← e263, ← e267, q268]; rfl, rfl⟩ (by decide) (by decide) d_p10m5_108
            · -- not taken: 89
              refine lv_aload_n hx hb d_p10m5_89 rfl (lv_at hl 1 rfl) ?_
              refine pd_get X w f241 rfl 1 (by decide) mT_257 rfl rfl d_p10m5_90 ?_
              refine lv_aload_n hx hb d_p10m5_93 rfl (lv_at hl 0 rfl) ?_
              refine pd_get X w f3 rfl 1 (by decide) mT_881 rfl rfl d_p10m5_94 ?_
              refine pd_cS (As := [.ref nm239, .ref nm1]) (rest := []) X w (c_Grammar_startsWith l G h (by assumption) (by assumption)) ok_Grammar_startsWith mT_958 mT_957 ⟨by decide, by decide⟩ rfl hl.1 rfl (Nat.le_of_ble_eq_true rfl) d_p10m5_97 ⟨by decide, by decide⟩ (fun r269 h270 H locs hp271 w => ?_)
              refine W.widen (k := 0) (n := 0) (by decide) (by decide) ?_
              obtain ⟨e272, rfl⟩ := hp271
              refine pd_beq (tgt := 107) hx hb d_p10m5_100 (by decide) (fun q273 => ?_) (fun q273 => ?_)
              · -- taken: 107
                refine lv_iconst (v := nI 0) hx hb d_p10m5_107 (by decide) ?_
                refine W.eq (g2 := F0 m 108 ls [.int (pd_b false)]) rfl ?_
                exact pd_zret (v := false) X w ⟨by unfold gr_fits gr_fcl; rw [hft, if_neg (by omega), if_pos z238, ← e263, ← e267, q268, ← e272, q273]; rfl, rfl⟩ (by decide) (by decide) d_p10m5_108
              · -- not taken: 103
                refine lv_iconst (v := nI 1) hx hb d_p10m5_103 (by decide) ?_
                refine lv_goto (tgt := 108) hx hb d_p10m5_104 (by decide) ?_
                refine W.eq (g2 := F0 m 108 ls [.int (pd_b true)]) rfl ?_
                exact pd_zret (v := true) X w ⟨by unfold gr_fits gr_fcl; rw [hft, if_neg (by omega), if_pos z238, ← e263, ← e267, q268, ← e272, q273]; rfl, rfl⟩ (by decide) (by decide) d_p10m5_108
          · -- case 2: 109
            refine lv_tableIn (tgt := 109) hx hb d_p10m5_41 (by rw [z238]; decide) (by rw [z238]; decide) (by rw [z238]; rfl) (by decide) ?_
            refine lv_aload_n hx hb d_p10m5_109 rfl (lv_at hl 1 rfl) ?_
            obtain ⟨nm274, fx275, f276, f277, f278⟩ := hR.1 j (by omega)
            obtain ⟨v279, g280, f281, f282, gf283, gc284, gl285⟩ := id f277
            obtain ⟨v286, cap287, g288, f289, z290, z291, z292, z293, z294⟩ := id f278
            refine pd_getN X w f276 rfl 8 (by decide) mT_272 rfl rfl d_p10m5_110 ?_
            refine lv_aload_n hx hb d_p10m5_113 rfl (lv_at hl 0 rfl) ?_
            refine pd_get X w f3 rfl 1 (by decide) mT_881 rfl rfl d_p10m5_114 ?_
            refine pd_cV (a := nm1) (As := []) (rest := [.int (pd_m (gr_sl (R j).1))]) X w f8 rfl (c_String_length l G h (by assumption)) ok_String_length ⟨mT_93, mT_94⟩ mT_761 ⟨by decide, by decide⟩ rfl hl.1 rfl (Nat.le_of_ble_eq_true rfl) d_p10m5_117 ⟨by decide, by decide⟩ (fun r295 h296 H locs hp297 w => ?_)
            refine W.widen (k := 0) (n := 0) (by decide) (by decide) ?_
            obtain ⟨e298, rfl⟩ := hp297
            refine lv_icmp_ne (tgt := 141) hx hb d_p10m5_120 (by decide) (fun q299 => ?_) (fun q299 => ?_)
            · -- taken: 141
              refine lv_iconst (v := nI 0) hx hb d_p10m5_141 (by decide) ?_
              refine W.eq (g2 := F0 m 142 ls [.int (pd_b false)]) rfl ?_
              exact pd_zret (v := false) X w ⟨by unfold gr_fits gr_fcl; rw [hft, if_neg (by omega), if_neg (by omega), if_pos z238, ← e298, decide_eq_false (fun h9 => q299 ((pd_mn (by omega) (fun t9 h9 => by have := gr_sl_lt h9; omega)).mpr h9))]; rfl, rfl⟩ (by decide) (by decide) d_p10m5_142
            · -- not taken: 123
              refine lv_aload_n hx hb d_p10m5_123 rfl (lv_at hl 1 rfl) ?_
              refine pd_get X w f276 rfl 1 (by decide) mT_257 rfl rfl d_p10m5_124 ?_
              refine lv_aload_n hx hb d_p10m5_127 rfl (lv_at hl 0 rfl) ?_
              refine pd_get X w f3 rfl 1 (by decide) mT_881 rfl rfl d_p10m5_128 ?_
              refine pd_cS (As := [.ref nm274, .ref nm1]) (rest := []) X w (c_Grammar_startsWith l G h (by assumption) (by assumption)) ok_Grammar_startsWith mT_958 mT_957 ⟨by decide, by decide⟩ rfl hl.1 rfl (Nat.le_of_ble_eq_true rfl) d_p10m5_131 ⟨by decide, by decide⟩ (fun r300 h301 H locs hp302 w => ?_)
              refine W.widen (k := 0) (n := 0) (by decide) (by decide) ?_
              obtain ⟨e303, rfl⟩ := hp302
              refine pd_beq (tgt := 141) hx hb d_p10m5_134 (by decide) (fun q304 => ?_) (fun q304 => ?_)
              · -- taken: 141
                refine lv_iconst (v := nI 0) hx hb d_p10m5_141 (by decide) ?_
                refine W.eq (g2 := F0 m 142 ls [.int (pd_b false)]) rfl ?_
                exact pd_zret (v := false) X w ⟨by unfold gr_fits gr_fcl; rw [hft, if_neg (by omega), if_neg (by omega), if_pos z238, ← e298, decide_eq_true ((pd_mn (by omega) (fun t9 h9 => by have := gr_sl_lt h9; omega)).mp q299), ← e303, q304]; rfl, rfl⟩ (by decide) (by decide) d_p10m5_142
              · -- not taken: 137
                refine lv_iconst (v := nI 1) hx hb d_p10m5_137 (by decide) ?_
                refine lv_goto (tgt := 142) hx hb d_p10m5_138 (by decide) ?_
                refine W.eq (g2 := F0 m 142 ls [.int (pd_b true)]) rfl ?_
                exact pd_zret (v := true) X w ⟨by unfold gr_fits gr_fcl; rw [hft, if_neg (by omega), if_neg (by omega), if_pos z238, ← e298, decide_eq_true ((pd_mn (by omega) (fun t9 h9 => by have := gr_sl_lt h9; omega)).mp q299), ← e303, q304]; rfl, rfl⟩ (by decide) (by decide) d_p10m5_142
          · -- default: 143
            refine lv_tableOut (tgt := 143) hx hb d_p10m5_41 (Or.inr (by rw [nI_toInt (by omega)]; omega)) (by decide) ?_
            refine lv_aload_n hx hb d_p10m5_143 rfl (lv_at hl 1 rfl) ?_
            obtain ⟨nm305, fx306, f307, f308, f309⟩ := hR.1 j (by omega)
            obtain ⟨v310, g311, f312, f313, gf314, gc315, gl316⟩ := id f308
            obtain ⟨v317, cap318, g319, f320, z321, z322, z323, z324, z325⟩ := id f309
            refine pd_get X w f307 rfl 1 (by decide) mT_257 rfl rfl d_p10m5_144 ?_
            refine lv_aload_n hx hb d_p10m5_147 rfl (lv_at hl 0 rfl) ?_
            refine pd_get X w f3 rfl 1 (by decide) mT_881 rfl rfl d_p10m5_148 ?_
            refine pd_cV (a := nm305) (As := [.ref nm1]) (rest := []) X w f312 rfl (c_String_equals l G h (by assumption) (by assumption)) ok_String_equals ⟨mT_613, mT_614⟩ mT_751 ⟨by decide, by decide⟩ rfl hl.1 rfl (Nat.le_of_ble_eq_true rfl) d_p10m5_151 ⟨by decide, by decide⟩ (fun r326 h327 H locs hp328 w => ?_)
            refine W.widen (k := 0) (n := 0) (by decide) (by decide) ?_
            obtain ⟨e329, rfl⟩ := hp328
            exact pd_zret (v := r326) X w ⟨by unfold gr_fits gr_fcl; rw [hft, if_neg (by omega), if_neg (by omega), if_neg (by omega)]; exact e329, rfl⟩ (by decide) (by decide) d_p10m5_154
        · -- not taken: 35
          refine lv_iconst (v := nI 0) hx hb d_p10m5_35 (by decide) ?_
          refine W.eq (g2 := F0 m 36 ls [.int (pd_b false)]) rfl ?_
          exact pd_zret (v := false) X w ⟨by unfold gr_fits gr_ftm; rw [if_neg (by omega), q114]; show false = ((if gr_bh w0 = 2 then _ else true) && _); rw [if_pos (by omega), (e236.symm.trans q237)]; rfl, rfl⟩ (by decide) (by decide) d_p10m5_36
theorem d_p11m1_0 : decode prog_11_method_1_code 0 = .ok (.aload_n 0, 1) := by decide +kernel
theorem d_p11m1_1 : decode prog_11_method_1_code 1 = .ok (.invokespecial 1, 3) := by decide +kernel
theorem d_p11m1_4 : decode prog_11_method_1_code 4 = .ok (.aload_n 0, 1) := by decide +kernel
theorem d_p11m1_5 : decode prog_11_method_1_code 5 = .ok (.aload_n 1, 1) := by decide +kernel
theorem d_p11m1_6 : decode prog_11_method_1_code 6 = .ok (.putfield 7, 3) := by decide +kernel
theorem d_p11m1_9 : decode prog_11_method_1_code 9 = .ok (.aload_n 0, 1) := by decide +kernel
theorem d_p11m1_10 : decode prog_11_method_1_code 10 = .ok (.aload_n 2, 1) := by decide +kernel
theorem d_p11m1_11 : decode prog_11_method_1_code 11 = .ok (.putfield 13, 3) := by decide +kernel
theorem d_p11m1_14 : decode prog_11_method_1_code 14 = .ok (.aload_n 0, 1) := by decide +kernel
theorem d_p11m1_15 : decode prog_11_method_1_code 15 = .ok (.iload_n 3, 1) := by decide +kernel
theorem d_p11m1_16 : decode prog_11_method_1_code 16 = .ok (.putfield 17, 3) := by decide +kernel
theorem d_p11m1_19 : decode prog_11_method_1_code 19 = .ok (.aload_n 0, 1) := by decide +kernel
theorem d_p11m1_20 : decode prog_11_method_1_code 20 = .ok (.aload 4, 2) := by decide +kernel
theorem d_p11m1_22 : decode prog_11_method_1_code 22 = .ok (.putfield 21, 3) := by decide +kernel
theorem d_p11m1_25 : decode prog_11_method_1_code 25 = .ok (.return_, 1) := by decide +kernel
abbrev y_RuleRow_init : MethodName := ⟨"PolicyDesk$RuleRow", "<init>", "(LPolicyDesk$Verb;LPolicyDesk$Pattern;ILPolicyDesk$MemberRow;)V"⟩
theorem ok_RuleRow_init : pd_ok y_RuleRow_init prog_11_method_1_code 5 none 4 := ⟨mT_899, mT_30, by decide, by decide +kernel⟩
abbrev rm_RuleRow_init : Room := { frames := 1, cells := 0, slots := 0, locals := 20 }
set_option maxHeartbeats 4000000 in
set_option maxRecDepth 100000 in
theorem c_RuleRow_init (l : Launch) (G : pd_G) (h : pd_H) {x tg va pa c0 : Nat} {o : Option Nat} {B : Nat → Nat} (hx0 : h x = some (tg, .inr (8, [.null, .null, .int (nI 0), .null]))) (hz_x : G.2.1 ≤ x) : pd_Mv l y_RuleRow_init prog_11_method_1_code 5 rm_RuleRow_init G h [.ref x, .ref va, .ref pa, .int (nI c0), va_rf (o.map B)] (fun h1 => pd_kq x h h1 ∧ h1 x = some (tg, .inr (8, [.ref va, .ref pa, .int (nI c0), va_rf (o.map B)]))) := by
  refine pd_Mv.of (by decide) (by cases o <;> exact Nat.le_of_ble_eq_true rfl) ?_
  intro p e s m below meth c X hmn w ls hl
  have hx := X.1
  have hb := X.2.1
  have hl : lv_has ls 5 [(0, .ref x), (1, .ref va), (2, .ref pa), (3, .int (nI c0)), (4, va_rf (o.map B))] := by simp only [lv_args, pd_cat] at hl; simpa [Value.category] using hl
  refine lv_aload_n hx hb d_p11m1_0 rfl (lv_at hl 0 rfl) ?_
  refine W.objInit hx hb X.2.2.2.2.1 (X.2.2.2.2.2.1 _ mT_900) (X.2.2.2.2.2.1 _ mT_38) (X.2.2.2.2.2.1 _ mT_39) rfl (by rw [X.2.2.2.1]; exact hl.1) rfl d_p11m1_1 (by decide) (Nat.le_of_ble_eq_true rfl) ?_
  refine W.eq (g2 := F0 m 4 ls []) rfl ?_
  refine lv_aload_n hx hb d_p11m1_4 rfl (lv_at hl 0 rfl) ?_
  refine lv_aload_n hx hb d_p11m1_5 rfl (lv_at hl 1 rfl) ?_
  refine pd_putF (ty := (.object "PolicyDesk$Verb")) X w hx0 hz_x rfl 0 (by decide) mT_901 rfl rfl hmn rfl (by decide +kernel) rfl rfl (Nat.le_of_ble_eq_true rfl) d_p11m1_6 (fun H locs w => ?_)
  have w : pd_w G s H locs (pd_up h x (tg, .inr (8, [.ref va, .null, .int (nI 0), .null]))) := w
  obtain ⟨h1, u4⟩ : ∃ z, z = pd_up h x (tg, .inr (8, [.ref va, .null, .int (nI 0), .null])) := ⟨_, rfl⟩
  rw [← u4] at w
  have k2 : pd_kq x h h1 := by rw [u4]; exact pd_up_kq
  have f3 : h1 x = some (tg, .inr (8, [.ref va, .null, .int (nI 0), .null])) := by rw [u4]; exact pd_up_s _ _ _
  refine lv_aload_n hx hb d_p11m1_9 rfl (lv_at hl 0 rfl) ?_
  refine lv_aload_n hx hb d_p11m1_10 rfl (lv_at hl 2 rfl) ?_
  refine pd_putF (ty := (.object "PolicyDesk$Pattern")) X w f3 hz_x rfl 1 (by decide) mT_904 rfl rfl hmn rfl (by decide +kernel) rfl rfl (Nat.le_of_ble_eq_true rfl) d_p11m1_11 (fun H locs w => ?_)
  have w : pd_w G s H locs (pd_up h1 x (tg, .inr (8, [.ref va, .ref pa, .int (nI 0), .null]))) := w
  obtain ⟨h5, u8⟩ : ∃ z, z = pd_up h1 x (tg, .inr (8, [.ref va, .ref pa, .int (nI 0), .null])) := ⟨_, rfl⟩
  rw [← u8] at w
  have k6 : pd_kq x h1 h5 := by rw [u8]; exact pd_up_kq
  have f7 : h5 x = some (tg, .inr (8, [.ref va, .ref pa, .int (nI 0), .null])) := by rw [u8]; exact pd_up_s _ _ _
  refine lv_aload_n hx hb d_p11m1_14 rfl (lv_at hl 0 rfl) ?_
  refine lv_iload_n hx hb d_p11m1_15 rfl (lv_at hl 3 rfl) ?_
  refine pd_putF (ty := .int) X w f7 hz_x rfl 2 (by decide) mT_907 rfl rfl hmn rfl (by decide +kernel) rfl rfl (Nat.le_of_ble_eq_true rfl) d_p11m1_16 (fun H locs w => ?_)
  have w : pd_w G s H locs (pd_up h5 x (tg, .inr (8, [.ref va, .ref pa, .int (nI c0), .null]))) := w
  obtain ⟨h9, u12⟩ : ∃ z, z = pd_up h5 x (tg, .inr (8, [.ref va, .ref pa, .int (nI c0), .null])) := ⟨_, rfl⟩
  rw [← u12] at w
  have k10 : pd_kq x h5 h9 := by rw [u12]; exact pd_up_kq
  have f11 : h9 x = some (tg, .inr (8, [.ref va, .ref pa, .int (nI c0), .null])) := by rw [u12]; exact pd_up_s _ _ _
  refine lv_aload_n hx hb d_p11m1_19 rfl (lv_at hl 0 rfl) ?_
  refine pd_oload hx hb d_p11m1_20 (lv_at hl 4 rfl) ?_
  refine pd_putF (ty := (.object "PolicyDesk$MemberRow")) X w f11 hz_x rfl 3 (by decide) mT_909 rfl rfl hmn rfl (by decide +kernel) (by cases o.map B <;> rfl) (by cases o.map B <;> rfl) (Nat.le_of_ble_eq_true rfl) d_p11m1_22 (fun H locs w => ?_)
  have w : pd_w G s H locs (pd_up h9 x (tg, .inr (8, [.ref va, .ref pa, .int (nI c0), va_rf (o.map B)]))) := w
  obtain ⟨h13, u16⟩ : ∃ z, z = pd_up h9 x (tg, .inr (8, [.ref va, .ref pa, .int (nI c0), va_rf (o.map B)])) := ⟨_, rfl⟩
  rw [← u16] at w
  have k14 : pd_kq x h9 h13 := by rw [u16]; exact pd_up_kq
  have f15 : h13 x = some (tg, .inr (8, [.ref va, .ref pa, .int (nI c0), va_rf (o.map B)])) := by rw [u16]; exact pd_up_s _ _ _
  exact pd_vret X w ⟨(((k2).tr k6).tr k10).tr k14, f15⟩ (by decide) (by decide) d_p11m1_25
theorem d_p12m2_0 : decode prog_12_method_2_code 0 = .ok (.aload_n 0, 1) := by decide +kernel
theorem d_p12m2_1 : decode prog_12_method_2_code 1 = .ok (.getfield 17, 3) := by decide +kernel
theorem d_p12m2_4 : decode prog_12_method_2_code 4 = .ok (.bipush 24, 2) := by decide +kernel
theorem d_p12m2_6 : decode prog_12_method_2_code 6 = .ok (.if_icmp .lt 6, 3) := by decide +kernel
theorem d_p12m2_9 : decode prog_12_method_2_code 9 = .ok (.bipush (-5), 2) := by decide +kernel
theorem d_p12m2_11 : decode prog_12_method_2_code 11 = .ok (.ireturn, 1) := by decide +kernel
theorem d_p12m2_12 : decode prog_12_method_2_code 12 = .ok (.aload_n 0, 1) := by decide +kernel
theorem d_p12m2_13 : decode prog_12_method_2_code 13 = .ok (.getfield 13, 3) := by decide +kernel
theorem d_p12m2_16 : decode prog_12_method_2_code 16 = .ok (.aload_n 0, 1) := by decide +kernel
theorem d_p12m2_17 : decode prog_12_method_2_code 17 = .ok (.getfield 17, 3) := by decide +kernel
theorem d_p12m2_20 : decode prog_12_method_2_code 20 = .ok (.new 11, 3) := by decide +kernel
theorem d_p12m2_23 : decode prog_12_method_2_code 23 = .ok (.dup, 1) := by decide +kernel
theorem d_p12m2_24 : decode prog_12_method_2_code 24 = .ok (.aload_n 1, 1) := by decide +kernel
theorem d_p12m2_25 : decode prog_12_method_2_code 25 = .ok (.new 21, 3) := by decide +kernel
theorem d_p12m2_28 : decode prog_12_method_2_code 28 = .ok (.dup, 1) := by decide +kernel
theorem d_p12m2_29 : decode prog_12_method_2_code 29 = .ok (.aload_n 2, 1) := by decide +kernel
theorem d_p12m2_30 : decode prog_12_method_2_code 30 = .ok (.invokespecial 23, 3) := by decide +kernel
theorem d_p12m2_33 : decode prog_12_method_2_code 33 = .ok (.iload_n 3, 1) := by decide +kernel
theorem d_p12m2_34 : decode prog_12_method_2_code 34 = .ok (.aload 4, 2) := by decide +kernel
theorem d_p12m2_36 : decode prog_12_method_2_code 36 = .ok (.invokespecial 26, 3) := by decide +kernel
theorem d_p12m2_39 : decode prog_12_method_2_code 39 = .ok (.aastore, 1) := by decide +kernel
theorem d_p12m2_40 : decode prog_12_method_2_code 40 = .ok (.aload_n 0, 1) := by decide +kernel
theorem d_p12m2_41 : decode prog_12_method_2_code 41 = .ok (.dup, 1) := by decide +kernel
theorem d_p12m2_42 : decode prog_12_method_2_code 42 = .ok (.getfield 17, 3) := by decide +kernel
theorem d_p12m2_45 : decode prog_12_method_2_code 45 = .ok (.iconst 1, 1) := by decide +kernel
theorem d_p12m2_46 : decode prog_12_method_2_code 46 = .ok (.iadd, 1) := by decide +kernel
theorem d_p12m2_47 : decode prog_12_method_2_code 47 = .ok (.putfield 17, 3) := by decide +kernel
theorem d_p12m2_50 : decode prog_12_method_2_code 50 = .ok (.aload_n 0, 1) := by decide +kernel
theorem d_p12m2_51 : decode prog_12_method_2_code 51 = .ok (.getfield 17, 3) := by decide +kernel
theorem d_p12m2_54 : decode prog_12_method_2_code 54 = .ok (.iconst 1, 1) := by decide +kernel
theorem d_p12m2_55 : decode prog_12_method_2_code 55 = .ok (.isub, 1) := by decide +kernel
theorem d_p12m2_56 : decode prog_12_method_2_code 56 = .ok (.ireturn, 1) := by decide +kernel
abbrev y_Rules_add : MethodName := ⟨"PolicyDesk$Rules", "add", "(LPolicyDesk$Verb;Ljava/lang/String;ILPolicyDesk$MemberRow;)I"⟩
theorem ok_Rules_add : pd_ok y_Rules_add prog_12_method_2_code 5 (some .int) 4 := ⟨mT_866, mT_19, by decide, by decide +kernel⟩
abbrev rm_Rules_add : Room := { frames := 9, cells := 12, slots := 329, locals := 216 }
set_option maxHeartbeats 4000000 in
set_option maxRecDepth 100000 in
theorem c_Rules_add (l : Launch) (G : pd_G) (h : pd_H) {x : Nat} {B : Nat → Nat} {k : Nat} {C : Nat → Nat} {u : Nat} {U : Nat → pd_rr} {v a c0 : Nat} {cs : List Nat} {o : Option Nat} (hU : pd_Ruls G h x B k C u U) (hv13 : v < 13) (hc0 : c0 < 1000) (hS : pd_Str h a cs) (ho : ∀ t, o = some t → t < k) : pd_M l y_Rules_add prog_12_method_2_code 5 (some .int) rm_Rules_add G h [.ref x, .ref (G.2.2.2 (10 + v)), .ref a, .int (nI c0), va_rf (o.map B)] Value.int (fun r h1 => pd_kx [9, 13, 14, 18] h h1 ∧ r = (gr_radd u U (v, cs, c0, o)).1 ∧ ∃ C2, pd_Ruls G h1 x B k C2 (gr_radd u U (v, cs, c0, o)).2.1 (gr_radd u U (v, cs, c0, o)).2.2) := by
  refine pd_M.of (by decide) (by cases o <;> exact Nat.le_of_ble_eq_true rfl) ?_
  intro p e s m below meth c X hmn w ls hl
  have hx := X.1
  have hb := X.2.1
  have hl : lv_has ls 5 [(0, .ref x), (1, .ref (G.2.2.2 (10 + v))), (2, .ref a), (3, .int (nI c0)), (4, va_rf (o.map B))] := by simp only [lv_args, pd_cat] at hl; simpa [Value.category] using hl
  obtain ⟨ar, f, hx0, har, hfA, hz_x, hz_ar, hu24, hRR⟩ := id hU
  refine lv_aload_n hx hb d_p12m2_0 rfl (lv_at hl 0 rfl) ?_
  refine pd_get X w hx0 rfl 1 (by decide) mT_334 rfl rfl d_p12m2_1 ?_
  refine lv_bipush (v := nI 24) hx hb d_p12m2_4 (by decide) ?_
  refine pd_jlt (tgt := 12) hx hb d_p12m2_6 (by decide) (by omega) (by omega) (fun q1 => ?_) (fun q1 => ?_)
  · -- taken: 12
    refine lv_aload_n hx hb d_p12m2_12 rfl (lv_at hl 0 rfl) ?_
    refine pd_get X w hx0 rfl 0 (by decide) mT_333 rfl rfl d_p12m2_13 ?_
    refine lv_aload_n hx hb d_p12m2_16 rfl (lv_at hl 0 rfl) ?_
    refine pd_get X w hx0 rfl 1 (by decide) mT_334 rfl rfl d_p12m2_17 ?_
    refine pd_new (ci := 8) (C := "PolicyDesk$RuleRow") (T := pd_F8) (N := 4) (fs := [.null, .null, .int (nI 0), .null]) 9 X w rfl mT_331 mT_867 mT_30 (pd_hfs (by decide +kernel)) (by decide) (by decide) d_p12m2_20 (fun q2 H hq3 hz4 w => ?_)
    refine W.widen (k := 1) (n := 4) (by decide) (by decide) ?_
    obtain ⟨h5, u8⟩ : ∃ z, z = pd_up h q2 (9, .inr (8, [.null, .null, .int (nI 0), .null])) := ⟨_, rfl⟩
    rw [← u8] at w
    have k6 : pd_kx [] h h5 := by rw [u8]; exact pd_new_kx hq3
    have f7 : h5 q2 = some (9, .inr (8, [.null, .null, .int (nI 0), .null])) := by rw [u8]; exact pd_up_s _ _ _
    have f9 := k6 _ _ hx0 List.not_mem_nil
    have f10 := k6 _ _ har List.not_mem_nil
    have f11 := hU.kx k6 List.not_mem_nil List.not_mem_nil List.not_mem_nil
    have f12 := hRR.kx k6 List.not_mem_nil
    have f13 := hS.kx k6 List.not_mem_nil
    refine lv_dup hx hb d_p12m2_23 rfl ?_
    refine lv_aload_n hx hb d_p12m2_24 rfl (lv_at hl 1 rfl) ?_
    refine pd_new (ci := 7) (C := "PolicyDesk$Pattern") (T := pd_F7) (N := 5) (fs := [.int (nI 0), .null, .int (nI 0), .null, .int (nI 0)]) 18 X w rfl mT_868 mT_869 mT_28 (pd_hfs (by decide +kernel)) (by decide) (by decide) d_p12m2_25 (fun q14 H hq15 hz16 w => ?_)
    refine W.widen (k := 2) (n := 9) (by decide) (by decide) ?_
    obtain ⟨h17, u20⟩ : ∃ z, z = pd_up h5 q14 (18, .inr (7, [.int (nI 0), .null, .int (nI 0), .null, .int (nI 0)])) := ⟨_, rfl⟩
    rw [← u20] at w
    have k18 : pd_kx [] h5 h17 := by rw [u20]; exact pd_new_kx hq15
    have f19 : h17 q14 = some (18, .inr (7, [.int (nI 0), .null, .int (nI 0), .null, .int (nI 0)])) := by rw [u20]; exact pd_up_s _ _ _
    have f21 := k18 _ _ f9 List.not_mem_nil
    have f22 := k18 _ _ f7 List.not_mem_nil
    have f23 := k18 _ _ f10 List.not_mem_nil
    have f24 := f11.kx k18 List.not_mem_nil List.not_mem_nil List.not_mem_nil
    have f25 := f12.kx k18 List.not_mem_nil
    have f26 := f13.kx k18 List.not_mem_nil
    refine lv_dup hx hb d_p12m2_28 rfl ?_
    refine lv_aload_n hx hb d_p12m2_29 rfl (lv_at hl 2 rfl) ?_
    refine pd_cI (a := q14) (As := [.ref a]) (rest := [.ref q14, .ref (G.2.2.2 (10 + v)), .ref q2, .ref q2, .int (nI u), .ref ar]) X w (c_Pattern_init l G h17 (by assumption) (by assumption) (by assumption)) ok_Pattern_init rfl mT_871 mT_870 ⟨by decide, by decide⟩ rfl hl.1 rfl (Nat.le_of_ble_eq_true rfl) d_p12m2_30 ⟨by decide, by decide⟩ (fun h28 H locs hp29 w => ?_)
    refine W.widen (k := 12) (n := 329) (by decide) (by decide) ?_
    obtain ⟨k30, f31⟩ := hp29
    have f32 := k30 _ _ f21 (show (13 : Nat) ∉ [18] by decide)
    have f33 := k30 _ _ f22 (show (9 : Nat) ∉ [18] by decide)
    have f34 := k30 _ _ f23 (show (14 : Nat) ∉ [18] by decide)
    have f35 := f24.kx k30 (show (13 : Nat) ∉ [18] by decide) (show (14 : Nat) ∉ [18] by decide) (show (0 : Nat) ∉ [18] by decide)
    have f36 := f25.kx k30 (show (0 : Nat) ∉ [18] by decide)
    have f37 := f26.kx k30 (show (0 : Nat) ∉ [18] by decide)
    obtain ⟨h38, w, k39, f40⟩ := pd_Pat.tag w X.2.2.2.2.2.2.2.2.2.1 hz16 f31
    have f41 := k39 _ _ f32 (show (13 : Nat) ∉ [18] by decide)
    have f42 := k39 _ _ f33 (show (9 : Nat) ∉ [18] by decide)
    have f43 := k39 _ _ f34 (show (14 : Nat) ∉ [18] by decide)
    have f44 := f35.kx k39 (show (13 : Nat) ∉ [18] by decide) (show (14 : Nat) ∉ [18] by decide) (show (0 : Nat) ∉ [18] by decide)
    have f45 := f36.kx k39 (show (0 : Nat) ∉ [18] by decide)
    have f46 := f37.kx k39 (show (0 : Nat) ∉ [18] by decide)
    refine lv_iload_n hx hb d_p12m2_33 rfl (lv_at hl 3 rfl) ?_
    refine pd_oload hx hb d_p12m2_34 (lv_at hl 4 rfl) ?_
    refine pd_cI (a := q2) (As := [.ref (G.2.2.2 (10 + v)), .ref q14, .int (nI c0), va_rf (o.map B)]) (rest := [.ref q2, .int (nI u), .ref ar]) X w (c_RuleRow_init l G h38 (o := o) (B := B) (by assumption) (by assumption)) ok_RuleRow_init rfl mT_898 mT_897 ⟨by decide, by decide⟩ rfl hl.1 rfl (Nat.le_of_ble_eq_true rfl) d_p12m2_36 ⟨by decide, by decide⟩ (fun h48 H locs hp49 w => ?_)
    refine W.widen (k := 12) (n := 329) (by decide) (by decide) ?_
    obtain ⟨k50, f51⟩ := hp49
    have f52 := k50 _ _ (pd_nn hx0 hq3) f41
    have f53 := k50 _ _ (pd_nn har hq3) f43
    have f54 := f44.kx (pd_kq.kx k50 f42) (show (13 : Nat) ∉ [9] by decide) (show (14 : Nat) ∉ [9] by decide) (show (0 : Nat) ∉ [9] by decide)
    have f55 := f45.kx (pd_kq.kx k50 f42) (show (0 : Nat) ∉ [9] by decide)
    have f56 := f46.kx (pd_kq.kx k50 f42) (show (0 : Nat) ∉ [9] by decide)
    have f57 := f40.kx (pd_kq.kx k50 f42) (show (0 : Nat) ∉ [9] by decide) (show (0 : Nat) ∉ [9] by decide)
    have w : pd_w G s H locs (pd_up h48 q2 (0, .inr (8, [.ref (G.2.2.2 (10 + v)), .ref q14, .int (nI c0), va_rf (o.map B)]))) := w.tag X.2.2.2.2.2.2.2.2.2.1 0 f51 hz4
    obtain ⟨h58, u61⟩ : ∃ z, z = pd_up h48 q2 (0, .inr (8, [.ref (G.2.2.2 (10 + v)), .ref q14, .int (nI c0), va_rf (o.map B)])) := ⟨_, rfl⟩
    rw [← u61] at w
    have k60 : pd_kx [9] h48 h58 := by rw [u61]; exact pd_up_kx f51
    have f59 : h58 q2 = some (0, .inr (8, [.ref (G.2.2.2 (10 + v)), .ref q14, .int (nI c0), va_rf (o.map B)])) := by rw [u61]; exact pd_up_s _ _ _
    have f62 := k60 _ _ f52 (show (13 : Nat) ∉ [9] by decide)
    have f63 := k60 _ _ f53 (show (14 : Nat) ∉ [9] by decide)
    have f64 := f54.kx k60 (show (13 : Nat) ∉ [9] by decide) (show (14 : Nat) ∉ [9] by decide) (show (0 : Nat) ∉ [9] by decide)
    have f65 := f55.kx k60 (show (0 : Nat) ∉ [9] by decide)
    have f66 := f56.kx k60 (show (0 : Nat) ∉ [9] by decide)
    have f67 := f57.kx k60 (show (0 : Nat) ∉ [9] by decide) (show (0 : Nat) ∉ [9] by decide)
    refine pd_aast X w f63 hz_ar f59 rfl (Or.inl rfl) (by omega) (by omega) d_p12m2_39 (fun H locs w => ?_)
    have w : pd_w G s H locs (pd_up h58 ar (14, .inl ((.object "PolicyDesk$RuleRow"), 24, .inr (.inr (.inr (.inr (va_up f u (some q2)))))))) := w
    obtain ⟨h68, u71⟩ : ∃ z, z = pd_up h58 ar (14, .inl ((.object "PolicyDesk$RuleRow"), 24, .inr (.inr (.inr (.inr (va_up f u (some q2))))))) := ⟨_, rfl⟩
    rw [← u71] at w
    have k69 : pd_kq ar h58 h68 := by rw [u71]; exact pd_up_kq
    have f70 : h68 ar = some (14, .inl ((.object "PolicyDesk$RuleRow"), 24, .inr (.inr (.inr (.inr (va_up f u (some q2))))))) := by rw [u71]; exact pd_up_s _ _ _
    have f72 := k69 _ _ (pd_ne f62 f63 (by simp)) f62
    have f73 := k69 _ _ (pd_ne f59 f63 (by simp)) f59
    have f75 := f65.kx (pd_kq.kx k69 f63) (show (0 : Nat) ∉ [14] by decide)
    have f76 := f66.kx (pd_kq.kx k69 f63) (show (0 : Nat) ∉ [14] by decide)
    have f77 := f67.kx (pd_kq.kx k69 f63) (show (0 : Nat) ∉ [14] by decide) (show (0 : Nat) ∉ [14] by decide)
    refine lv_aload_n hx hb d_p12m2_40 rfl (lv_at hl 0 rfl) ?_
    refine lv_dup hx hb d_p12m2_41 rfl ?_
    refine pd_get X w f72 rfl 1 (by decide) mT_334 rfl rfl d_p12m2_42 ?_
    refine lv_iconst (v := nI 1) hx hb d_p12m2_45 (by decide) ?_
    refine pd_iadd hx hb d_p12m2_46 ?_
    refine pd_put (ty := .int) X w f72 hz_x rfl 1 (by decide) mT_334 rfl rfl (by decide +kernel) rfl rfl (Nat.le_of_ble_eq_true rfl) d_p12m2_47 (fun H locs w => ?_)
    have w : pd_w G s H locs (pd_up h68 x (13, .inr (9, [.ref ar, .int (nI (u + 1))]))) := w
    obtain ⟨h78, u81⟩ : ∃ z, z = pd_up h68 x (13, .inr (9, [.ref ar, .int (nI (u + 1))])) := ⟨_, rfl⟩
    rw [← u81] at w
    have k79 : pd_kq x h68 h78 := by rw [u81]; exact pd_up_kq
    have f80 : h78 x = some (13, .inr (9, [.ref ar, .int (nI (u + 1))])) := by rw [u81]; exact pd_up_s _ _ _
    have f82 := k79 _ _ (pd_ne f73 f72 (by simp)) f73
    have f83 := k79 _ _ (pd_ne f70 f72 (by simp)) f70
    have f84 := f75.kx (pd_kq.kx k79 f72) (show (0 : Nat) ∉ [13] by decide)
    have f85 := f76.kx (pd_kq.kx k79 f72) (show (0 : Nat) ∉ [13] by decide)
    have f86 := f77.kx (pd_kq.kx k79 f72) (show (0 : Nat) ∉ [13] by decide) (show (0 : Nat) ∉ [13] by decide)
    refine lv_aload_n hx hb d_p12m2_50 rfl (lv_at hl 0 rfl) ?_
    refine pd_get X w f80 rfl 1 (by decide) mT_334 rfl rfl d_p12m2_51 ?_
    refine lv_iconst (v := nI 1) hx hb d_p12m2_54 (by decide) ?_
    refine pd_isub hx hb d_p12m2_55 (by omega) ?_
    have kt87 : pd_kx [18, 9, 14, 13] h h78 := by
      intro ya c9 ys0 n9
      have ys1 := k6 ya c9 ys0 List.not_mem_nil
      have ys2 := k18 ya c9 ys1 List.not_mem_nil
      have ys3 := k30 ya c9 ys2 (fun z9 => n9 ((show ∀ t ∈ [18], t ∈ [18, 9, 14, 13] by simp) _ z9))
      have ys4 := k39 ya c9 ys3 (fun z9 => n9 ((show ∀ t ∈ [18], t ∈ [18, 9, 14, 13] by simp) _ z9))
      have ys5 := k50 ya c9 (pd_nn ys0 hq3) ys4
      have ys6 := k60 ya c9 ys5 (fun z9 => n9 ((show ∀ t ∈ [9], t ∈ [18, 9, 14, 13] by simp) _ z9))
      have ys7 := k69 ya c9 (pd_ne ys6 f63 (fun z9 => n9 (by rw [z9]; simp))) ys6
      have ys8 := k79 ya c9 (pd_ne ys7 f72 (fun z9 => n9 (by rw [z9]; simp))) ys7
      exact ys8
    exact pd_iret (v := (nI ((u + 1) - 1))) X w ⟨pd_kx.mono (us := [9, 13, 14, 18]) (kt87) (by simp), (by rw [gr_radd_y (by omega), show u + 1 - 1 = u by omega]), pd_fu C u q2, (by rw [gr_radd_y (by omega)]; show pd_Ruls G h78 x B k (pd_fu C u q2) (u + 1) (pd_fu U u (v, cs, c0, o)); exact ⟨_, _, f80, f83, (fun i hi => by by_cases e9 : i = u; subst e9; rw [pd_fu_s]; unfold va_up; rw [if_pos rfl]; rw [pd_fu_n e9]; unfold va_up; rw [if_neg e9]; exact hfA i (by omega)), hz_x, hz_ar, by omega, (fun i hi => by by_cases e9 : i = u; subst e9; rw [pd_fu_s, pd_fu_s]; exact ⟨⟨_, f82, f86⟩, hv13, hc0, ho⟩; rw [pd_fu_n e9, pd_fu_n e9]; exact f84 i (by omega))⟩)⟩ (by decide) (by decide) d_p12m2_56
  · -- not taken: 9
    refine lv_bipush (v := -5) hx hb d_p12m2_9 (by decide) ?_
    exact pd_iret (v := (-5)) X w ⟨pd_kx.rf, (by rw [gr_radd_n (by omega)]), C, (by rw [gr_radd_n (by omega)]; exact hU)⟩ (by decide) (by decide) d_p12m2_11
theorem d_p12m1_0 : decode prog_12_method_1_code 0 = .ok (.aload_n 0, 1) := by decide +kernel
theorem d_p12m1_1 : decode prog_12_method_1_code 1 = .ok (.invokespecial 3, 3) := by decide +kernel
theorem d_p12m1_4 : decode prog_12_method_1_code 4 = .ok (.aload_n 0, 1) := by decide +kernel
theorem d_p12m1_5 : decode prog_12_method_1_code 5 = .ok (.bipush 24, 2) := by decide +kernel
theorem d_p12m1_7 : decode prog_12_method_1_code 7 = .ok (.anewarray 11, 3) := by decide +kernel
theorem d_p12m1_10 : decode prog_12_method_1_code 10 = .ok (.putfield 13, 3) := by decide +kernel
theorem d_p12m1_13 : decode prog_12_method_1_code 13 = .ok (.return_, 1) := by decide +kernel
abbrev y_Rules_init : MethodName := ⟨"PolicyDesk$Rules", "<init>", "()V"⟩
theorem ok_Rules_init : pd_ok y_Rules_init prog_12_method_1_code 1 none 0 := ⟨mT_329, mT_19, by decide, by decide +kernel⟩
abbrev rm_Rules_init : Room := { frames := 1, cells := 1, slots := 24, locals := 20 }
set_option maxHeartbeats 4000000 in
set_option maxRecDepth 100000 in
theorem c_Rules_init (l : Launch) (G : pd_G) (h : pd_H) {x : Nat} (hx0 : h x = some (13, .inr (9, [.null, .int (nI 0)]))) (hz_x : G.2.1 ≤ x) : pd_Mv l y_Rules_init prog_12_method_1_code 1 rm_Rules_init G h [.ref x] (fun h1 => pd_kx [13, 14] h h1 ∧ ∀ (B : Nat → Nat) (k : Nat) (C : Nat → Nat) (U : Nat → pd_rr), pd_Ruls G h1 x B k C 0 U) := by
  refine pd_Mv.of (by decide) (Nat.le_of_ble_eq_true rfl) ?_
  intro p e s m below meth c X hmn w ls hl
  have hx := X.1
  have hb := X.2.1
  have hl : lv_has ls 1 [(0, .ref x)] := hl
  refine lv_aload_n hx hb d_p12m1_0 rfl (lv_at hl 0 rfl) ?_
  refine W.objInit hx hb X.2.2.2.2.1 (X.2.2.2.2.2.1 _ mT_330) (X.2.2.2.2.2.1 _ mT_38) (X.2.2.2.2.2.1 _ mT_39) rfl (by rw [X.2.2.2.1]; exact hl.1) rfl d_p12m1_1 (by decide) (Nat.le_of_ble_eq_true rfl) ?_
  refine W.eq (g2 := F0 m 4 ls []) rfl ?_
  refine lv_aload_n hx hb d_p12m1_4 rfl (lv_at hl 0 rfl) ?_
  refine lv_bipush (v := nI 24) hx hb d_p12m1_5 (by decide) ?_
  refine pd_newq (E := "PolicyDesk$RuleRow") 14 X w mT_331 mT_332 (by omega) (by decide) (Nat.le_trans (Nat.add_le_add_left (by omega : 24 ≤ 24) _) (by decide)) d_p12m1_7 (fun q1 H hq2 hz3 w => ?_)
  refine W.widen (k := 1) (n := 24) (by decide) (by omega) ?_
  obtain ⟨h4, u7⟩ : ∃ z, z = pd_up h q1 (14, .inl ((.object "PolicyDesk$RuleRow"), 24, .inr (.inr (.inr (.inr (fun _ => none)))))) := ⟨_, rfl⟩
  rw [← u7] at w
  have k5 : pd_kx [] h h4 := by rw [u7]; exact pd_new_kx hq2
  have f6 : h4 q1 = some (14, .inl ((.object "PolicyDesk$RuleRow"), 24, .inr (.inr (.inr (.inr (fun _ => none)))))) := by rw [u7]; exact pd_up_s _ _ _
  have f8 := k5 _ _ hx0 List.not_mem_nil
  refine pd_putF (ty := (.array (.object "PolicyDesk$RuleRow"))) X w f8 hz_x rfl 0 (by decide) mT_333 rfl rfl hmn rfl (by decide +kernel) rfl rfl (Nat.le_of_ble_eq_true rfl) d_p12m1_10 (fun H locs w => ?_)
  have w : pd_w G s H locs (pd_up h4 x (13, .inr (9, [.ref q1, .int (nI 0)]))) := w
  obtain ⟨h9, u12⟩ : ∃ z, z = pd_up h4 x (13, .inr (9, [.ref q1, .int (nI 0)])) := ⟨_, rfl⟩
  rw [← u12] at w
  have k10 : pd_kq x h4 h9 := by rw [u12]; exact pd_up_kq
  have f11 : h9 x = some (13, .inr (9, [.ref q1, .int (nI 0)])) := by rw [u12]; exact pd_up_s _ _ _
  have f13 := k10 _ _ (pd_ne f6 f8 (by simp)) f6
  exact pd_vret X w ⟨pd_kx.mono (us := [13, 14]) (pd_kx.tr (pd_kx.mono (us := [13]) (k5) (by simp)) (pd_kq.kx (k10) f8)) (by simp), fun B k C U => ⟨_, _, f11, f13, (fun i hi => absurd hi (Nat.not_lt_zero i)), hz_x, hz3, Nat.zero_le _, (fun i hi => absurd hi (Nat.not_lt_zero i))⟩⟩ (by decide) (by decide) d_p12m1_13
theorem d_p12m3_0 : decode prog_12_method_3_code 0 = .ok (.aconst_null, 1) := by decide +kernel
theorem d_p12m3_1 : decode prog_12_method_3_code 1 = .ok (.astore 5, 2) := by decide +kernel
theorem d_p12m3_3 : decode prog_12_method_3_code 3 = .ok (.iconst 0, 1) := by decide +kernel
theorem d_p12m3_4 : decode prog_12_method_3_code 4 = .ok (.istore 6, 2) := by decide +kernel
theorem d_p12m3_6 : decode prog_12_method_3_code 6 = .ok (.iload 6, 2) := by decide +kernel
theorem d_p12m3_8 : decode prog_12_method_3_code 8 = .ok (.aload_n 0, 1) := by decide +kernel
theorem d_p12m3_9 : decode prog_12_method_3_code 9 = .ok (.getfield 17, 3) := by decide +kernel
theorem d_p12m3_12 : decode prog_12_method_3_code 12 = .ok (.if_icmp .ge 102, 3) := by decide +kernel
theorem d_p12m3_15 : decode prog_12_method_3_code 15 = .ok (.aload_n 0, 1) := by decide +kernel
theorem d_p12m3_16 : decode prog_12_method_3_code 16 = .ok (.getfield 13, 3) := by decide +kernel
theorem d_p12m3_19 : decode prog_12_method_3_code 19 = .ok (.iload 6, 2) := by decide +kernel
theorem d_p12m3_21 : decode prog_12_method_3_code 21 = .ok (.aaload, 1) := by decide +kernel
theorem d_p12m3_22 : decode prog_12_method_3_code 22 = .ok (.astore 7, 2) := by decide +kernel
theorem d_p12m3_24 : decode prog_12_method_3_code 24 = .ok (.aload 7, 2) := by decide +kernel
theorem d_p12m3_26 : decode prog_12_method_3_code 26 = .ok (.getfield 29, 3) := by decide +kernel
theorem d_p12m3_29 : decode prog_12_method_3_code 29 = .ok (.aload_n 1, 1) := by decide +kernel
theorem d_p12m3_30 : decode prog_12_method_3_code 30 = .ok (.if_acmp .eq 12, 3) := by decide +kernel
theorem d_p12m3_33 : decode prog_12_method_3_code 33 = .ok (.aload 7, 2) := by decide +kernel
theorem d_p12m3_35 : decode prog_12_method_3_code 35 = .ok (.getfield 29, 3) := by decide +kernel
theorem d_p12m3_38 : decode prog_12_method_3_code 38 = .ok (.aload_n 2, 1) := by decide +kernel
theorem d_p12m3_39 : decode prog_12_method_3_code 39 = .ok (.if_acmp .ne 7, 3) := by decide +kernel
theorem d_p12m3_42 : decode prog_12_method_3_code 42 = .ok (.iconst 1, 1) := by decide +kernel
theorem d_p12m3_43 : decode prog_12_method_3_code 43 = .ok (.goto 4, 3) := by decide +kernel
theorem d_p12m3_46 : decode prog_12_method_3_code 46 = .ok (.iconst 0, 1) := by decide +kernel
theorem d_p12m3_47 : decode prog_12_method_3_code 47 = .ok (.istore 8, 2) := by decide +kernel
theorem d_p12m3_49 : decode prog_12_method_3_code 49 = .ok (.aload 5, 2) := by decide +kernel
theorem d_p12m3_51 : decode prog_12_method_3_code 51 = .ok (.ifnull 22, 3) := by decide +kernel
theorem d_p12m3_54 : decode prog_12_method_3_code 54 = .ok (.aload 7, 2) := by decide +kernel
theorem d_p12m3_56 : decode prog_12_method_3_code 56 = .ok (.getfield 33, 3) := by decide +kernel
theorem d_p12m3_59 : decode prog_12_method_3_code 59 = .ok (.getfield 37, 3) := by decide +kernel
theorem d_p12m3_62 : decode prog_12_method_3_code 62 = .ok (.aload 5, 2) := by decide +kernel
theorem d_p12m3_64 : decode prog_12_method_3_code 64 = .ok (.getfield 33, 3) := by decide +kernel
theorem d_p12m3_67 : decode prog_12_method_3_code 67 = .ok (.getfield 37, 3) := by decide +kernel
theorem d_p12m3_70 : decode prog_12_method_3_code 70 = .ok (.if_icmp .lt 7, 3) := by decide +kernel
theorem d_p12m3_73 : decode prog_12_method_3_code 73 = .ok (.iconst 1, 1) := by decide +kernel
theorem d_p12m3_74 : decode prog_12_method_3_code 74 = .ok (.goto 4, 3) := by decide +kernel
theorem d_p12m3_77 : decode prog_12_method_3_code 77 = .ok (.iconst 0, 1) := by decide +kernel
theorem d_p12m3_78 : decode prog_12_method_3_code 78 = .ok (.istore 9, 2) := by decide +kernel
theorem d_p12m3_80 : decode prog_12_method_3_code 80 = .ok (.iload 8, 2) := by decide +kernel
theorem d_p12m3_82 : decode prog_12_method_3_code 82 = .ok (.ifCond .eq 26, 3) := by decide +kernel
theorem d_p12m3_85 : decode prog_12_method_3_code 85 = .ok (.iload 9, 2) := by decide +kernel
theorem d_p12m3_87 : decode prog_12_method_3_code 87 = .ok (.ifCond .eq 21, 3) := by decide +kernel
theorem d_p12m3_90 : decode prog_12_method_3_code 90 = .ok (.aload 7, 2) := by decide +kernel
theorem d_p12m3_92 : decode prog_12_method_3_code 92 = .ok (.getfield 33, 3) := by decide +kernel
theorem d_p12m3_95 : decode prog_12_method_3_code 95 = .ok (.aload_n 3, 1) := by decide +kernel
theorem d_p12m3_96 : decode prog_12_method_3_code 96 = .ok (.aload 4, 2) := by decide +kernel
theorem d_p12m3_98 : decode prog_12_method_3_code 98 = .ok (.invokevirtual 40, 3) := by decide +kernel
theorem d_p12m3_101 : decode prog_12_method_3_code 101 = .ok (.ifCond .eq 7, 3) := by decide +kernel
theorem d_p12m3_104 : decode prog_12_method_3_code 104 = .ok (.aload 7, 2) := by decide +kernel
theorem d_p12m3_106 : decode prog_12_method_3_code 106 = .ok (.astore 5, 2) := by decide +kernel
theorem d_p12m3_108 : decode prog_12_method_3_code 108 = .ok (.iinc 6 1, 3) := by decide +kernel
theorem d_p12m3_111 : decode prog_12_method_3_code 111 = .ok (.goto (-105), 3) := by decide +kernel
theorem d_p12m3_114 : decode prog_12_method_3_code 114 = .ok (.aload 5, 2) := by decide +kernel
theorem d_p12m3_116 : decode prog_12_method_3_code 116 = .ok (.areturn, 1) := by decide +kernel
abbrev y_Rules_best : MethodName := ⟨"PolicyDesk$Rules", "best", "(LPolicyDesk$Verb;LPolicyDesk$Verb;LPolicyDesk$ClassRow;LPolicyDesk$MemberRow;)LPolicyDesk$RuleRow;"⟩
theorem ok_Rules_best : pd_ok y_Rules_best prog_12_method_3_code 10 (some (.object "PolicyDesk$RuleRow")) 4 := ⟨mT_951, mT_19, by decide, by decide +kernel⟩
abbrev rm_Rules_best : Room := { frames := 6, cells := 0, slots := 0, locals := 129 }
set_option maxHeartbeats 4000000 in
set_option maxRecDepth 100000 in
theorem lp_Rules_best_6 (l : Launch) (G : pd_G) (h : pd_H) {x : Nat} {B : Nat → Nat} {k : Nat} {C : Nat → Nat} {u : Nat} {U : Nat → pd_rr} {A : Nat → Nat} {n : Nat} {R : Nat → pd_cr} {M : Nat → pd_mr} {v1 v2 j : Nat} {o : Option Nat} (hU : pd_Ruls G h x B k C u U) (hR : pd_Rows G h A n R) (hMR : pd_MRows h A n B k M) (hv1 : v1 < 13) (hv2 : v2 < 13) (hjn : j < n) (ho : ∀ t, o = some t → t < k) {p : Program} {e : Env} {s : State} {m : MethodId} {below : List Frame} {meth : Method} {c : Code} (X : pd_B p s m [.ref x, .ref (G.2.2.2 (10 + v1)), .ref (G.2.2.2 (10 + v2)), .ref (A j), va_rf (o.map B)].toArray meth c G y_Rules_best.cls prog_12_method_3_code 10 (some (.object "PolicyDesk$RuleRow"))) (hmn : meth.name = y_Rules_best.name) :
    ∀ (kk9 : Nat) (i : Nat) (b : Option Nat), (i ≤ u) → (∀ t, b = some t → t < u) → (gr_bst R M U v1 v2 j o i = b) → u - i < kk9 → ∀ (H : Heap) (locs : List Loc), pd_w G s H locs h → ∀ ls : Array Slot, lv_has ls 10 [(6, .int (nI i)), (5, va_rf (b.map C)), (0, .ref x), (1, .ref (G.2.2.2 (10 + v1))), (2, .ref (G.2.2.2 (10 + v2))), (3, .ref (A j)), (4, va_rf (o.map B))] → W p l e rm_Rules_best s m [.ref x, .ref (G.2.2.2 (10 + v1)), .ref (G.2.2.2 (10 + v2)), .ref (A j), va_rf (o.map B)].toArray below meth c H locs 0 0 (MQ below (pd_Q G va_rf (fun r h1 => r = (gr_bst R M U v1 v2 j o u).map C ∧ h = h1)) [.ref x, .ref (G.2.2.2 (10 + v1)), .ref (G.2.2.2 (10 + v2)), .ref (A j), va_rf (o.map B)].toArray s rm_Rules_best.cells rm_Rules_best.slots (fun q => G.2.1 ≤ q)) (F0 m 6 ls []) := by
  have hx := X.1
  have hb := X.2.1
  obtain ⟨ar, f, hx0, har, hfA, hz_x, hz_ar, hu24, hRR⟩ := id hU
  have hcw := hR.2.2
  have hn14 := hcw.1
  intro kk9
  induction kk9 with
  | zero => intros; omega
  | succ kk9 ih =>
    intro i b hi hbo hv hmu H locs w ls hl
    refine lv_iload hx hb d_p12m3_6 (lv_at hl 0 rfl) ?_
    refine lv_aload_n hx hb d_p12m3_8 rfl (lv_at hl 2 rfl) ?_
    refine pd_get X w hx0 rfl 1 (by decide) mT_334 rfl rfl d_p12m3_9 ?_
    refine pd_jge (tgt := 114) hx hb d_p12m3_12 (by decide) (by omega) (by omega) (fun q1 => ?_) (fun q1 => ?_)
    · -- taken: 114
      refine pd_oload hx hb d_p12m3_114 (lv_at hl 1 rfl) ?_
      exact pd_oret (v := (b.map C)) X (Or.inl ⟨_, rfl⟩) w ⟨by rw [← hv, show i = u by omega], rfl⟩ (by decide) (by decide) d_p12m3_116
    · -- not taken: 15
      refine lv_aload_n hx hb d_p12m3_15 rfl (lv_at hl 2 rfl) ?_
      refine pd_get X w hx0 rfl 0 (by decide) mT_333 rfl rfl d_p12m3_16 ?_
      refine lv_iload hx hb d_p12m3_19 (lv_at hl 0 rfl) ?_
      refine pd_aald X w har rfl (by omega) (by omega) d_p12m3_21 ?_
      refine pd_top (v' := .ref (C i)) (by rw [hfA i (by omega)]; rfl) ?_
      refine lv_astore (lv' := [(7, .ref (C i)), (6, .int (nI i)), (5, va_rf (b.map C)), (0, .ref x), (1, .ref (G.2.2.2 (10 + v1))), (2, .ref (G.2.2.2 (10 + v2))), (3, .ref (A j)), (4, va_rf (o.map B))]) hx hb d_p12m3_22 hl (by decide) rfl (fun ls hl => ?_)
      refine lv_aload hx hb d_p12m3_24 (lv_at hl 0 rfl) ?_
      obtain ⟨⟨pa2, f3, f4⟩, z5, z6, z7⟩ := hRR i (by omega)
      refine pd_get X w f3 rfl 0 (by decide) mT_902 rfl rfl d_p12m3_26 ?_
      refine lv_aload_n hx hb d_p12m3_29 rfl (lv_at hl 4 rfl) ?_
      refine lv_acmp_eq (rx := (some (G.2.2.2 (10 + (U i).1)))) (ry := (some (G.2.2.2 (10 + v1)))) (tgt := 42) hx hb d_p12m3_30 (by decide) (fun q8 => ?_) (fun q8 => ?_)
      · -- taken: 42
        have hmt : (U i).1 = v1 ∨ (U i).1 = v2 := Or.inl ((pd_Kf_of X).2.2.2.2.2.2 _ _ z5 hv1 (Option.some.inj q8))
        refine lv_iconst (v := nI 1) hx hb d_p12m3_42 (by decide) ?_
        refine lv_goto (tgt := 47) hx hb d_p12m3_43 (by decide) ?_
        refine lv_istore (lv' := [(8, .int (nI 1)), (7, .ref (C i)), (6, .int (nI i)), (5, va_rf (b.map C)), (0, .ref x), (1, .ref (G.2.2.2 (10 + v1))), (2, .ref (G.2.2.2 (10 + v2))), (3, .ref (A j)), (4, va_rf (o.map B))]) hx hb d_p12m3_47 hl (by decide) rfl (fun ls hl => ?_)
        refine pd_oload hx hb d_p12m3_49 (lv_at hl 3 rfl) ?_
        rcases pd_oc b with q9 | ⟨i11, q9⟩
        · -- none
          refine pd_top (v' := .null) (by rw [q9]; rfl) ?_
          rw [q9] at hl
          have hl : lv_has ls 10 [(8, .int (nI 1)), (7, .ref (C i)), (6, .int (nI i)), (5, .null), (0, .ref x), (1, .ref (G.2.2.2 (10 + v1))), (2, .ref (G.2.2.2 (10 + v2))), (3, .ref (A j)), (4, va_rf (o.map B))] := hl
          refine lv_ifnullN (tgt := 73) hx hb d_p12m3_51 (by decide) ?_
          have hbt : gr_btr U b i = true := by rw [q9]; rfl
          refine lv_iconst (v := nI 1) hx hb d_p12m3_73 (by decide) ?_
          refine lv_goto (tgt := 78) hx hb d_p12m3_74 (by decide) ?_
          refine lv_istore (lv' := [(9, .int (nI 1)), (8, .int (nI 1)), (7, .ref (C i)), (6, .int (nI i)), (5, .null), (0, .ref x), (1, .ref (G.2.2.2 (10 + v1))), (2, .ref (G.2.2.2 (10 + v2))), (3, .ref (A j)), (4, va_rf (o.map B))]) hx hb d_p12m3_78 hl (by decide) rfl (fun ls hl => ?_)
          refine lv_iload hx hb d_p12m3_80 (lv_at hl 1 rfl) ?_
          refine pd_zeq (tgt := 108) hx hb d_p12m3_82 (by decide) (by decide) (fun q => absurd q (by decide)) (fun _ => ?_)
          refine lv_iload hx hb d_p12m3_85 (lv_at hl 0 rfl) ?_
          refine pd_zeq (tgt := 108) hx hb d_p12m3_87 (by decide) (by decide) (fun q => absurd q (by decide)) (fun _ => ?_)
          refine lv_aload hx hb d_p12m3_90 (lv_at hl 2 rfl) ?_
          refine pd_get X w f3 rfl 1 (by decide) mT_905 rfl rfl d_p12m3_92 ?_
          refine lv_aload_n hx hb d_p12m3_95 rfl (lv_at hl 8 rfl) ?_
          refine pd_oload hx hb d_p12m3_96 (lv_at hl 9 rfl) ?_
          obtain ⟨nm15, mn16, f17, f18, f19⟩ := id f4
          obtain ⟨v20, g21, f22, f23, gf24, gc25, gl26⟩ := id f18
          obtain ⟨v27, g28, f29, f30, gf31, gc32, gl33⟩ := id f19
          have nm15rl := gr_rank_lt gl26
          have nm15bl := gr_bh_le ((U i).2.1)
          have nm15cl := gr_rch_le ((U i).2.1)
          refine pd_cV (a := pa2) (As := [.ref (A j), va_rf (o.map B)]) (rest := []) X w f17 rfl (c_Pattern_fits l G h (by assumption) (by assumption) (by assumption) (by omega) (by assumption)) ok_Pattern_fits ⟨mT_953, mT_954⟩ mT_952 ⟨by decide, by decide⟩ rfl hl.1 rfl (Nat.le_of_ble_eq_true rfl) d_p12m3_98 ⟨by decide, by decide⟩ (fun r34 h35 H locs hp36 w => ?_)
          refine W.widen (k := 0) (n := 0) (by decide) (by decide) ?_
          obtain ⟨e37, rfl⟩ := hp36
          refine pd_beq (tgt := 108) hx hb d_p12m3_101 (by decide) (fun q38 => ?_) (fun q38 => ?_)
          · -- taken: 108
            refine pd_iinc (k := 3) (d := 1) (lv' := [(6, .int (nI (i + 1))), (9, .int (nI 1)), (8, .int (nI 1)), (7, .ref (C i)), (5, .null), (0, .ref x), (1, .ref (G.2.2.2 (10 + v1))), (2, .ref (G.2.2.2 (10 + v2))), (3, .ref (A j)), (4, va_rf (o.map B))]) hx hb d_p12m3_108 (by decide) hl rfl (by decide) rfl (fun ls hl => ?_)
            refine lv_goto (tgt := 6) hx hb d_p12m3_111 (by decide) ?_
            exact ih (i + 1) none (by omega) (fun t ht => by first | (cases ht; done) | (cases ht; omega)) ((gr_bst_n3 hv (e37.symm.trans q38)).trans q9) (by omega) _ _ w ls (lv_sub hl [0, 4, 5, 6, 7, 8, 9] rfl)
          · -- not taken: 104
            refine lv_aload hx hb d_p12m3_104 (lv_at hl 2 rfl) ?_
            refine lv_astore (lv' := [(5, .ref (C i)), (9, .int (nI 1)), (8, .int (nI 1)), (7, .ref (C i)), (6, .int (nI i)), (0, .ref x), (1, .ref (G.2.2.2 (10 + v1))), (2, .ref (G.2.2.2 (10 + v2))), (3, .ref (A j)), (4, va_rf (o.map B))]) hx hb d_p12m3_106 hl (by decide) (by simp [pd_cat]) (fun ls hl => ?_)
            refine pd_iinc (k := 4) (d := 1) (lv' := [(6, .int (nI (i + 1))), (5, .ref (C i)), (9, .int (nI 1)), (8, .int (nI 1)), (7, .ref (C i)), (0, .ref x), (1, .ref (G.2.2.2 (10 + v1))), (2, .ref (G.2.2.2 (10 + v2))), (3, .ref (A j)), (4, va_rf (o.map B))]) hx hb d_p12m3_108 (by decide) hl rfl (by decide) rfl (fun ls hl => ?_)
            refine lv_goto (tgt := 6) hx hb d_p12m3_111 (by decide) ?_
            exact ih (i + 1) (some i) (by omega) (fun t ht => by first | (cases ht; done) | (cases ht; omega)) (gr_bst_y hv hmt hbt (e37.symm.trans q38)) (by omega) _ _ w ls (lv_sub hl [0, 1, 5, 6, 7, 8, 9] rfl)
        · -- some
          refine pd_top (v' := .ref (C i11)) (by rw [q9]; rfl) ?_
          rw [q9] at hl
          have hl : lv_has ls 10 [(8, .int (nI 1)), (7, .ref (C i)), (6, .int (nI i)), (5, .ref (C i11)), (0, .ref x), (1, .ref (G.2.2.2 (10 + v1))), (2, .ref (G.2.2.2 (10 + v2))), (3, .ref (A j)), (4, va_rf (o.map B))] := hl
          have i11lt := hbo i11 q9
          refine lv_ifnull hx hb d_p12m3_51 ?_
          refine lv_aload hx hb d_p12m3_54 (lv_at hl 1 rfl) ?_
          refine pd_get X w f3 rfl 1 (by decide) mT_905 rfl rfl d_p12m3_56 ?_
          obtain ⟨nm40, mn41, f42, f43, f44⟩ := id f4
          obtain ⟨v45, g46, f47, f48, gf49, gc50, gl51⟩ := id f43
          obtain ⟨v52, g53, f54, f55, gf56, gc57, gl58⟩ := id f44
          have nm40rl := gr_rank_lt gl51
          have nm40bl := gr_bh_le ((U i).2.1)
          have nm40cl := gr_rch_le ((U i).2.1)
          refine pd_get X w f42 rfl 4 (by decide) mT_885 rfl rfl d_p12m3_59 ?_
          refine lv_aload hx hb d_p12m3_62 (lv_at hl 3 rfl) ?_
          obtain ⟨⟨pa59, f60, f61⟩, z62, z63, z64⟩ := hRR i11 (by omega)
          refine pd_get X w f60 rfl 1 (by decide) mT_905 rfl rfl d_p12m3_64 ?_
          obtain ⟨nm65, mn66, f67, f68, f69⟩ := id f61
          obtain ⟨v70, g71, f72, f73, gf74, gc75, gl76⟩ := id f68
          obtain ⟨v77, g78, f79, f80, gf81, gc82, gl83⟩ := id f69
          have nm65rl := gr_rank_lt gl76
          have nm65bl := gr_bh_le ((U i11).2.1)
          have nm65cl := gr_rch_le ((U i11).2.1)
          refine pd_get X w f67 rfl 4 (by decide) mT_885 rfl rfl d_p12m3_67 ?_
          refine pd_jlt (tgt := 77) hx hb d_p12m3_70 (by decide) (by omega) (by omega) (fun q84 => ?_) (fun q84 => ?_)
          · -- taken: 77
            have hbt : gr_btr U b i = false := by rw [q9]; exact decide_eq_false (by omega)
            refine lv_iconst (v := nI 0) hx hb d_p12m3_77 (by decide) ?_
            refine lv_istore (lv' := [(9, .int (nI 0)), (8, .int (nI 1)), (7, .ref (C i)), (6, .int (nI i)), (5, .ref (C i11)), (0, .ref x), (1, .ref (G.2.2.2 (10 + v1))), (2, .ref (G.2.2.2 (10 + v2))), (3, .ref (A j)), (4, va_rf (o.map B))]) hx hb d_p12m3_78 hl (by decide) rfl (fun ls hl => ?_)
            refine lv_iload hx hb d_p12m3_80 (lv_at hl 1 rfl) ?_
            refine pd_zeq (tgt := 108) hx hb d_p12m3_82 (by decide) (by decide) (fun q => absurd q (by decide)) (fun _ => ?_)
            refine lv_iload hx hb d_p12m3_85 (lv_at hl 0 rfl) ?_
            refine pd_zeq (tgt := 108) hx hb d_p12m3_87 (by decide) (by decide) (fun _ => ?_) (fun q => absurd q (by decide))
            refine pd_iinc (k := 3) (d := 1) (lv' := [(6, .int (nI (i + 1))), (9, .int (nI 0)), (8, .int (nI 1)), (7, .ref (C i)), (5, .ref (C i11)), (0, .ref x), (1, .ref (G.2.2.2 (10 + v1))), (2, .ref (G.2.2.2 (10 + v2))), (3, .ref (A j)), (4, va_rf (o.map B))]) hx hb d_p12m3_108 (by decide) hl rfl (by decide) rfl (fun ls hl => ?_)
            refine lv_goto (tgt := 6) hx hb d_p12m3_111 (by decide) ?_
            exact ih (i + 1) (some i11) (by omega) (fun t ht => by first | (cases ht; done) | (cases ht; omega)) ((gr_bst_n2 hv hbt).trans q9) (by omega) _ _ w ls (lv_sub hl [0, 4, 5, 6, 7, 8, 9] rfl)
          · -- not taken: 73
            have hbt : gr_btr U b i = true := by rw [q9]; exact decide_eq_true (by omega)
            refine lv_iconst (v := nI 1) hx hb d_p12m3_73 (by decide) ?_
            refine lv_goto (tgt := 78) hx hb d_p12m3_74 (by decide) ?_
            refine lv_istore (lv' := [(9, .int (nI 1)), (8, .int (nI 1)), (7, .ref (C i)), (6, .int (nI i)), (5, .ref (C i11)), (0, .ref x), (1, .ref (G.2.2.2 (10 + v1))), (2, .ref (G.2.2.2 (10 + v2))), (3, .ref (A j)), (4, va_rf (o.map B))]) hx hb d_p12m3_78 hl (by decide) rfl (fun ls hl => ?_)
            refine lv_iload hx hb d_p12m3_80 (lv_at hl 1 rfl) ?_
            refine pd_zeq (tgt := 108) hx hb d_p12m3_82 (by decide) (by decide) (fun q => absurd q (by decide)) (fun _ => ?_)
            refine lv_iload hx hb d_p12m3_85 (lv_at hl 0 rfl) ?_
            refine pd_zeq (tgt := 108) hx hb d_p12m3_87 (by decide) (by decide) (fun q => absurd q (by decide)) (fun _ => ?_)
            refine lv_aload hx hb d_p12m3_90 (lv_at hl 2 rfl) ?_
            refine pd_get X w f3 rfl 1 (by decide) mT_905 rfl rfl d_p12m3_92 ?_
            refine lv_aload_n hx hb d_p12m3_95 rfl (lv_at hl 8 rfl) ?_
            refine pd_oload hx hb d_p12m3_96 (lv_at hl 9 rfl) ?_
            refine pd_cV (a := pa2) (As := [.ref (A j), va_rf (o.map B)]) (rest := []) X w f42 rfl (c_Pattern_fits l G h (by assumption) (by assumption) (by assumption) (by omega) (by assumption)) ok_Pattern_fits ⟨mT_953, mT_954⟩ mT_952 ⟨by decide, by decide⟩ rfl hl.1 rfl (Nat.le_of_ble_eq_true rfl) d_p12m3_98 ⟨by decide, by decide⟩ (fun r89 h90 H locs hp91 w => ?_)
            refine W.widen (k := 0) (n := 0) (by decide) (by decide) ?_
            obtain ⟨e92, rfl⟩ := hp91
            refine pd_beq (tgt := 108) hx hb d_p12m3_101 (by decide) (fun q93 => ?_) (fun q93 => ?_)
            · -- taken: 108
              refine pd_iinc (k := 3) (d := 1) (lv' := [(6, .int (nI (i + 1))), (9, .int (nI 1)), (8, .int (nI 1)), (7, .ref (C i)), (5, .ref (C i11)), (0, .ref x), (1, .ref (G.2.2.2 (10 + v1))), (2, .ref (G.2.2.2 (10 + v2))), (3, .ref (A j)), (4, va_rf (o.map B))]) hx hb d_p12m3_108 (by decide) hl rfl (by decide) rfl (fun ls hl => ?_)
              refine lv_goto (tgt := 6) hx hb d_p12m3_111 (by decide) ?_
              exact ih (i + 1) (some i11) (by omega) (fun t ht => by first | (cases ht; done) | (cases ht; omega)) ((gr_bst_n3 hv (e92.symm.trans q93)).trans q9) (by omega) _ _ w ls (lv_sub hl [0, 4, 5, 6, 7, 8, 9] rfl)
            · -- not taken: 104
              refine lv_aload hx hb d_p12m3_104 (lv_at hl 2 rfl) ?_
              refine lv_astore (lv' := [(5, .ref (C i)), (9, .int (nI 1)), (8, .int (nI 1)), (7, .ref (C i)), (6, .int (nI i)), (0, .ref x), (1, .ref (G.2.2.2 (10 + v1))), (2, .ref (G.2.2.2 (10 + v2))), (3, .ref (A j)), (4, va_rf (o.map B))]) hx hb d_p12m3_106 hl (by decide) (by simp [pd_cat]) (fun ls hl => ?_)
              refine pd_iinc (k := 4) (d := 1) (lv' := [(6, .int (nI (i + 1))), (5, .ref (C i)), (9, .int (nI 1)), (8, .int (nI 1)), (7, .ref (C i)), (0, .ref x), (1, .ref (G.2.2.2 (10 + v1))), (2, .ref (G.2.2.2 (10 + v2))), (3, .ref (A j)), (4, va_rf (o.map B))]) hx hb d_p12m3_108 (by decide) hl rfl (by decide) rfl (fun ls hl => ?_)
              refine lv_goto (tgt := 6) hx hb d_p12m3_111 (by decide) ?_
              exact ih (i + 1) (some i) (by omega) (fun t ht => by first | (cases ht; done) | (cases ht; omega)) (gr_bst_y hv hmt hbt (e92.symm.trans q93)) (by omega) _ _ w ls (lv_sub hl [0, 1, 5, 6, 7, 8, 9] rfl)
      · -- not taken: 33
        refine lv_aload hx hb d_p12m3_33 (lv_at hl 0 rfl) ?_
        refine pd_get X w f3 rfl 0 (by decide) mT_902 rfl rfl d_p12m3_35 ?_
        refine lv_aload_n hx hb d_p12m3_38 rfl (lv_at hl 5 rfl) ?_
        refine lv_acmp_ne (rx := (some (G.2.2.2 (10 + (U i).1)))) (ry := (some (G.2.2.2 (10 + v2)))) (tgt := 46) hx hb d_p12m3_39 (by decide) (fun q94 => ?_) (fun q94 => ?_)
        · -- taken: 46
          have hm1 : ¬ (U i).1 = v1 := fun e9 => q8 (by rw [e9])
          have hm2 : ¬ (U i).1 = v2 := fun e9 => q94 (by rw [e9])
          refine lv_iconst (v := nI 0) hx hb d_p12m3_46 (by decide) ?_
          refine lv_istore (lv' := [(8, .int (nI 0)), (7, .ref (C i)), (6, .int (nI i)), (5, va_rf (b.map C)), (0, .ref x), (1, .ref (G.2.2.2 (10 + v1))), (2, .ref (G.2.2.2 (10 + v2))), (3, .ref (A j)), (4, va_rf (o.map B))]) hx hb d_p12m3_47 hl (by decide) rfl (fun ls hl => ?_)
          refine pd_oload hx hb d_p12m3_49 (lv_at hl 3 rfl) ?_
          rcases pd_oc b with q95 | ⟨i97, q95⟩
          · -- none
            refine pd_top (v' := .null) (by rw [q95]; rfl) ?_
            rw [q95] at hl
            have hl : lv_has ls 10 [(8, .int (nI 0)), (7, .ref (C i)), (6, .int (nI i)), (5, .null), (0, .ref x), (1, .ref (G.2.2.2 (10 + v1))), (2, .ref (G.2.2.2 (10 + v2))), (3, .ref (A j)), (4, va_rf (o.map B))] := hl
            refine lv_ifnullN (tgt := 73) hx hb d_p12m3_51 (by decide) ?_
            have hbt : gr_btr U b i = true := by rw [q95]; rfl
            refine lv_iconst (v := nI 1) hx hb d_p12m3_73 (by decide) ?_
            refine lv_goto (tgt := 78) hx hb d_p12m3_74 (by decide) ?_
            refine lv_istore (lv' := [(9, .int (nI 1)), (8, .int (nI 0)), (7, .ref (C i)), (6, .int (nI i)), (5, .null), (0, .ref x), (1, .ref (G.2.2.2 (10 + v1))), (2, .ref (G.2.2.2 (10 + v2))), (3, .ref (A j)), (4, va_rf (o.map B))]) hx hb d_p12m3_78 hl (by decide) rfl (fun ls hl => ?_)
            refine lv_iload hx hb d_p12m3_80 (lv_at hl 1 rfl) ?_
            refine pd_zeq (tgt := 108) hx hb d_p12m3_82 (by decide) (by decide) (fun _ => ?_) (fun q => absurd q (by decide))
            refine pd_iinc (k := 3) (d := 1) (lv' := [(6, .int (nI (i + 1))), (9, .int (nI 1)), (8, .int (nI 0)), (7, .ref (C i)), (5, .null), (0, .ref x), (1, .ref (G.2.2.2 (10 + v1))), (2, .ref (G.2.2.2 (10 + v2))), (3, .ref (A j)), (4, va_rf (o.map B))]) hx hb d_p12m3_108 (by decide) hl rfl (by decide) rfl (fun ls hl => ?_)
            refine lv_goto (tgt := 6) hx hb d_p12m3_111 (by decide) ?_
            exact ih (i + 1) none (by omega) (fun t ht => by first | (cases ht; done) | (cases ht; omega)) ((gr_bst_n1 hv hm1 hm2).trans q95) (by omega) _ _ w ls (lv_sub hl [0, 4, 5, 6, 7, 8, 9] rfl)
          · -- some
            refine pd_top (v' := .ref (C i97)) (by rw [q95]; rfl) ?_
            rw [q95] at hl
            have hl : lv_has ls 10 [(8, .int (nI 0)), (7, .ref (C i)), (6, .int (nI i)), (5, .ref (C i97)), (0, .ref x), (1, .ref (G.2.2.2 (10 + v1))), (2, .ref (G.2.2.2 (10 + v2))), (3, .ref (A j)), (4, va_rf (o.map B))] := hl
            have i97lt := hbo i97 q95
            refine lv_ifnull hx hb d_p12m3_51 ?_
            refine lv_aload hx hb d_p12m3_54 (lv_at hl 1 rfl) ?_
            refine pd_get X w f3 rfl 1 (by decide) mT_905 rfl rfl d_p12m3_56 ?_
            obtain ⟨nm101, mn102, f103, f104, f105⟩ := id f4
            obtain ⟨v106, g107, f108, f109, gf110, gc111, gl112⟩ := id f104
            obtain ⟨v113, g114, f115, f116, gf117, gc118, gl119⟩ := id f105
            have nm101rl := gr_rank_lt gl112
            have nm101bl := gr_bh_le ((U i).2.1)
            have nm101cl := gr_rch_le ((U i).2.1)
            refine pd_get X w f103 rfl 4 (by decide) mT_885 rfl rfl d_p12m3_59 ?_
            refine lv_aload hx hb d_p12m3_62 (lv_at hl 3 rfl) ?_
            obtain ⟨⟨pa120, f121, f122⟩, z123, z124, z125⟩ := hRR i97 (by omega)
            refine pd_get X w f121 rfl 1 (by decide) mT_905 rfl rfl d_p12m3_64 ?_
            obtain ⟨nm126, mn127, f128, f129, f130⟩ := id f122
            obtain ⟨v131, g132, f133, f134, gf135, gc136, gl137⟩ := id f129
            obtain ⟨v138, g139, f140, f141, gf142, gc143, gl144⟩ := id f130
            have nm126rl := gr_rank_lt gl137
            have nm126bl := gr_bh_le ((U i97).2.1)
            have nm126cl := gr_rch_le ((U i97).2.1)
            refine pd_get X w f128 rfl 4 (by decide) mT_885 rfl rfl d_p12m3_67 ?_
            refine pd_jlt (tgt := 77) hx hb d_p12m3_70 (by decide) (by omega) (by omega) (fun q145 => ?_) (fun q145 => ?_)
            · -- taken: 77
              have hbt : gr_btr U b i = false := by rw [q95]; exact decide_eq_false (by omega)
              refine lv_iconst (v := nI 0) hx hb d_p12m3_77 (by decide) ?_
              refine lv_istore (lv' := [(9, .int (nI 0)), (8, .int (nI 0)), (7, .ref (C i)), (6, .int (nI i)), (5, .ref (C i97)), (0, .ref x), (1, .ref (G.2.2.2 (10 + v1))), (2, .ref (G.2.2.2 (10 + v2))), (3, .ref (A j)), (4, va_rf (o.map B))]) hx hb d_p12m3_78 hl (by decide) rfl (fun ls hl => ?_)
              refine lv_iload hx hb d_p12m3_80 (lv_at hl 1 rfl) ?_
              refine pd_zeq (tgt := 108) hx hb d_p12m3_82 (by decide) (by decide) (fun _ => ?_) (fun q => absurd q (by decide))
              refine pd_iinc (k := 3) (d := 1) (lv' := [(6, .int (nI (i + 1))), (9, .int (nI 0)), (8, .int (nI 0)), (7, .ref (C i)), (5, .ref (C i97)), (0, .ref x), (1, .ref (G.2.2.2 (10 + v1))), (2, .ref (G.2.2.2 (10 + v2))), (3, .ref (A j)), (4, va_rf (o.map B))]) hx hb d_p12m3_108 (by decide) hl rfl (by decide) rfl (fun ls hl => ?_)
              refine lv_goto (tgt := 6) hx hb d_p12m3_111 (by decide) ?_
              exact ih (i + 1) (some i97) (by omega) (fun t ht => by first | (cases ht; done) | (cases ht; omega)) ((gr_bst_n1 hv hm1 hm2).trans q95) (by omega) _ _ w ls (lv_sub hl [0, 4, 5, 6, 7, 8, 9] rfl)
            · -- not taken: 73
              have hbt : gr_btr U b i = true := by rw [q95]; exact decide_eq_true (by omega)
              refine lv_iconst (v := nI 1) hx hb d_p12m3_73 (by decide) ?_
              refine lv_goto (tgt := 78) hx hb d_p12m3_74 (by decide) ?_
              refine lv_istore (lv' := [(9, .int (nI 1)), (8, .int (nI 0)), (7, .ref (C i)), (6, .int (nI i)), (5, .ref (C i97)), (0, .ref x), (1, .ref (G.2.2.2 (10 + v1))), (2, .ref (G.2.2.2 (10 + v2))), (3, .ref (A j)), (4, va_rf (o.map B))]) hx hb d_p12m3_78 hl (by decide) rfl (fun ls hl => ?_)
              refine lv_iload hx hb d_p12m3_80 (lv_at hl 1 rfl) ?_
              refine pd_zeq (tgt := 108) hx hb d_p12m3_82 (by decide) (by decide) (fun _ => ?_) (fun q => absurd q (by decide))
              refine pd_iinc (k := 3) (d := 1) (lv' := [(6, .int (nI (i + 1))), (9, .int (nI 1)), (8, .int (nI 0)), (7, .ref (C i)), (5, .ref (C i97)), (0, .ref x), (1, .ref (G.2.2.2 (10 + v1))), (2, .ref (G.2.2.2 (10 + v2))), (3, .ref (A j)), (4, va_rf (o.map B))]) hx hb d_p12m3_108 (by decide) hl rfl (by decide) rfl (fun ls hl => ?_)
              refine lv_goto (tgt := 6) hx hb d_p12m3_111 (by decide) ?_
              exact ih (i + 1) (some i97) (by omega) (fun t ht => by first | (cases ht; done) | (cases ht; omega)) ((gr_bst_n1 hv hm1 hm2).trans q95) (by omega) _ _ w ls (lv_sub hl [0, 4, 5, 6, 7, 8, 9] rfl)
        · -- not taken: 42
          have hmt : (U i).1 = v1 ∨ (U i).1 = v2 := Or.inr ((pd_Kf_of X).2.2.2.2.2.2 _ _ z5 hv2 (Option.some.inj q94))
          refine lv_iconst (v := nI 1) hx hb d_p12m3_42 (by decide) ?_
          refine lv_goto (tgt := 47) hx hb d_p12m3_43 (by decide) ?_
          refine lv_istore (lv' := [(8, .int (nI 1)), (7, .ref (C i)), (6, .int (nI i)), (5, va_rf (b.map C)), (0, .ref x), (1, .ref (G.2.2.2 (10 + v1))), (2, .ref (G.2.2.2 (10 + v2))), (3, .ref (A j)), (4, va_rf (o.map B))]) hx hb d_p12m3_47 hl (by decide) rfl (fun ls hl => ?_)
          refine pd_oload hx hb d_p12m3_49 (lv_at hl 3 rfl) ?_
          rcases pd_oc b with q148 | ⟨i150, q148⟩
          · -- none
            refine pd_top (v' := .null) (by rw [q148]; rfl) ?_
            rw [q148] at hl
            have hl : lv_has ls 10 [(8, .int (nI 1)), (7, .ref (C i)), (6, .int (nI i)), (5, .null), (0, .ref x), (1, .ref (G.2.2.2 (10 + v1))), (2, .ref (G.2.2.2 (10 + v2))), (3, .ref (A j)), (4, va_rf (o.map B))] := hl
            refine lv_ifnullN (tgt := 73) hx hb d_p12m3_51 (by decide) ?_
            have hbt : gr_btr U b i = true := by rw [q148]; rfl
            refine lv_iconst (v := nI 1) hx hb d_p12m3_73 (by decide) ?_
            refine lv_goto (tgt := 78) hx hb d_p12m3_74 (by decide) ?_
            refine lv_istore (lv' := [(9, .int (nI 1)), (8, .int (nI 1)), (7, .ref (C i)), (6, .int (nI i)), (5, .null), (0, .ref x), (1, .ref (G.2.2.2 (10 + v1))), (2, .ref (G.2.2.2 (10 + v2))), (3, .ref (A j)), (4, va_rf (o.map B))]) hx hb d_p12m3_78 hl (by decide) rfl (fun ls hl => ?_)
            refine lv_iload hx hb d_p12m3_80 (lv_at hl 1 rfl) ?_
            refine pd_zeq (tgt := 108) hx hb d_p12m3_82 (by decide) (by decide) (fun q => absurd q (by decide)) (fun _ => ?_)
            refine lv_iload hx hb d_p12m3_85 (lv_at hl 0 rfl) ?_
            refine pd_zeq (tgt := 108) hx hb d_p12m3_87 (by decide) (by decide) (fun q => absurd q (by decide)) (fun _ => ?_)
            refine lv_aload hx hb d_p12m3_90 (lv_at hl 2 rfl) ?_
            refine pd_get X w f3 rfl 1 (by decide) mT_905 rfl rfl d_p12m3_92 ?_
            refine lv_aload_n hx hb d_p12m3_95 rfl (lv_at hl 8 rfl) ?_
            refine pd_oload hx hb d_p12m3_96 (lv_at hl 9 rfl) ?_
            obtain ⟨nm154, mn155, f156, f157, f158⟩ := id f4
            obtain ⟨v159, g160, f161, f162, gf163, gc164, gl165⟩ := id f157
            obtain ⟨v166, g167, f168, f169, gf170, gc171, gl172⟩ := id f158
            have nm154rl := gr_rank_lt gl165
            have nm154bl := gr_bh_le ((U i).2.1)
            have nm154cl := gr_rch_le ((U i).2.1)
            refine pd_cV (a := pa2) (As := [.ref (A j), va_rf (o.map B)]) (rest := []) X w f156 rfl (c_Pattern_fits l G h (by assumption) (by assumption) (by assumption) (by omega) (by assumption)) ok_Pattern_fits ⟨mT_953, mT_954⟩ mT_952 ⟨by decide, by decide⟩ rfl hl.1 rfl (Nat.le_of_ble_eq_true rfl) d_p12m3_98 ⟨by decide, by decide⟩ (fun r173 h174 H locs hp175 w => ?_)
            refine W.widen (k := 0) (n := 0) (by decide) (by decide) ?_
            obtain ⟨e176, rfl⟩ := hp175
            refine pd_beq (tgt := 108) hx hb d_p12m3_101 (by decide) (fun q177 => ?_) (fun q177 => ?_)
            · -- taken: 108
              refine pd_iinc (k := 3) (d := 1) (lv' := [(6, .int (nI (i + 1))), (9, .int (nI 1)), (8, .int (nI 1)), (7, .ref (C i)), (5, .null), (0, .ref x), (1, .ref (G.2.2.2 (10 + v1))), (2, .ref (G.2.2.2 (10 + v2))), (3, .ref (A j)), (4, va_rf (o.map B))]) hx hb d_p12m3_108 (by decide) hl rfl (by decide) rfl (fun ls hl => ?_)
              refine lv_goto (tgt := 6) hx hb d_p12m3_111 (by decide) ?_
              exact ih (i + 1) none (by omega) (fun t ht => by first | (cases ht; done) | (cases ht; omega)) ((gr_bst_n3 hv (e176.symm.trans q177)).trans q148) (by omega) _ _ w ls (lv_sub hl [0, 4, 5, 6, 7, 8, 9] rfl)
            · -- not taken: 104
              refine lv_aload hx hb d_p12m3_104 (lv_at hl 2 rfl) ?_
              refine lv_astore (lv' := [(5, .ref (C i)), (9, .int (nI 1)), (8, .int (nI 1)), (7, .ref (C i)), (6, .int (nI i)), (0, .ref x), (1, .ref (G.2.2.2 (10 + v1))), (2, .ref (G.2.2.2 (10 + v2))), (3, .ref (A j)), (4, va_rf (o.map B))]) hx hb d_p12m3_106 hl (by decide) (by simp [pd_cat]) (fun ls hl => ?_)
              refine pd_iinc (k := 4) (d := 1) (lv' := [(6, .int (nI (i + 1))), (5, .ref (C i)), (9, .int (nI 1)), (8, .int (nI 1)), (7, .ref (C i)), (0, .ref x), (1, .ref (G.2.2.2 (10 + v1))), (2, .ref (G.2.2.2 (10 + v2))), (3, .ref (A j)), (4, va_rf (o.map B))]) hx hb d_p12m3_108 (by decide) hl rfl (by decide) rfl (fun ls hl => ?_)
              refine lv_goto (tgt := 6) hx hb d_p12m3_111 (by decide) ?_
              exact ih (i + 1) (some i) (by omega) (fun t ht => by first | (cases ht; done) | (cases ht; omega)) (gr_bst_y hv hmt hbt (e176.symm.trans q177)) (by omega) _ _ w ls (lv_sub hl [0, 1, 5, 6, 7, 8, 9] rfl)
          · -- some
            refine pd_top (v' := .ref (C i150)) (by rw [q148]; rfl) ?_
            rw [q148] at hl
            have hl : lv_has ls 10 [(8, .int (nI 1)), (7, .ref (C i)), (6, .int (nI i)), (5, .ref (C i150)), (0, .ref x), (1, .ref (G.2.2.2 (10 + v1))), (2, .ref (G.2.2.2 (10 + v2))), (3, .ref (A j)), (4, va_rf (o.map B))] := hl
            have i150lt := hbo i150 q148
            refine lv_ifnull hx hb d_p12m3_51 ?_
            refine lv_aload hx hb d_p12m3_54 (lv_at hl 1 rfl) ?_
            refine pd_get X w f3 rfl 1 (by decide) mT_905 rfl rfl d_p12m3_56 ?_
            obtain ⟨nm179, mn180, f181, f182, f183⟩ := id f4
            obtain ⟨v184, g185, f186, f187, gf188, gc189, gl190⟩ := id f182
            obtain ⟨v191, g192, f193, f194, gf195, gc196, gl197⟩ := id f183
            have nm179rl := gr_rank_lt gl190
            have nm179bl := gr_bh_le ((U i).2.1)
            have nm179cl := gr_rch_le ((U i).2.1)
            refine pd_get X w f181 rfl 4 (by decide) mT_885 rfl rfl d_p12m3_59 ?_
            refine lv_aload hx hb d_p12m3_62 (lv_at hl 3 rfl) ?_
            obtain ⟨⟨pa198, f199, f200⟩, z201, z202, z203⟩ := hRR i150 (by omega)
            refine pd_get X w f199 rfl 1 (by decide) mT_905 rfl rfl d_p12m3_64 ?_
            obtain ⟨nm204, mn205, f206, f207, f208⟩ := id f200
            obtain ⟨v209, g210, f211, f212, gf213, gc214, gl215⟩ := id f207
            obtain ⟨v216, g217, f218, f219, gf220, gc221, gl222⟩ := id f208
            have nm204rl := gr_rank_lt gl215
            have nm204bl := gr_bh_le ((U i150).2.1)
            have nm204cl := gr_rch_le ((U i150).2.1)
            refine pd_get X w f206 rfl 4 (by decide) mT_885 rfl rfl d_p12m3_67 ?_
            refine pd_jlt (tgt := 77) hx hb d_p12m3_70 (by decide) (by omega) (by omega) (fun q223 => ?_) (fun q223 => ?_)
            · -- taken: 77
              have hbt : gr_btr U b i = false := by rw [q148]; exact decide_eq_false (by omega)
              refine lv_iconst (v := nI 0) hx hb d_p12m3_77 (by decide) ?_
              refine lv_istore (lv' := [(9, .int (nI 0)), (8, .int (nI 1)), (7, .ref (C i)), (6, .int (nI i)), (5, .ref (C i150)), (0, .ref x), (1, .ref (G.2.2.2 (10 + v1))), (2, .ref (G.2.2.2 (10 + v2))), (3, .ref (A j)), (4, va_rf (o.map B))]) hx hb d_p12m3_78 hl (by decide) rfl (fun ls hl => ?_)
              refine lv_iload hx hb d_p12m3_80 (lv_at hl 1 rfl) ?_
              refine pd_zeq (tgt := 108) hx hb d_p12m3_82 (by decide) (by decide) (fun q => absurd q (by decide)) (fun _ => ?_)
              refine lv_iload hx hb d_p12m3_85 (lv_at hl 0 rfl) ?_
              refine pd_zeq (tgt := 108) hx hb d_p12m3_87 (by decide) (by decide) (fun _ => ?_) (fun q => absurd q (by decide))
              refine pd_iinc (k := 3) (d := 1) (lv' := [(6, .int (nI (i + 1))), (9, .int (nI 0)), (8, .int (nI 1)), (7, .ref (C i)), (5, .ref (C i150)), (0, .ref x), (1, .ref (G.2.2.2 (10 + v1))), (2, .ref (G.2.2.2 (10 + v2))), (3, .ref (A j)), (4, va_rf (o.map B))]) hx hb d_p12m3_108 (by decide) hl rfl (by decide) rfl (fun ls hl => ?_)
              refine lv_goto (tgt := 6) hx hb d_p12m3_111 (by decide) ?_
              exact ih (i + 1) (some i150) (by omega) (fun t ht => by first | (cases ht; done) | (cases ht; omega)) ((gr_bst_n2 hv hbt).trans q148) (by omega) _ _ w ls (lv_sub hl [0, 4, 5, 6, 7, 8, 9] rfl)
            · -- not taken: 73
              have hbt : gr_btr U b i = true := by rw [q148]; exact decide_eq_true (by omega)
              refine lv_iconst (v := nI 1) hx hb d_p12m3_73 (by decide) ?_
              refine lv_goto (tgt := 78) hx hb d_p12m3_74 (by decide) ?_
              refine lv_istore (lv' := [(9, .int (nI 1)), (8, .int (nI 1)), (7, .ref (C i)), (6, .int (nI i)), (5, .ref (C i150)), (0, .ref x), (1, .ref (G.2.2.2 (10 + v1))), (2, .ref (G.2.2.2 (10 + v2))), (3, .ref (A j)), (4, va_rf (o.map B))]) hx hb d_p12m3_78 hl (by decide) rfl (fun ls hl => ?_)
              refine lv_iload hx hb d_p12m3_80 (lv_at hl 1 rfl) ?_
              refine pd_zeq (tgt := 108) hx hb d_p12m3_82 (by decide) (by decide) (fun q => absurd q (by decide)) (fun _ => ?_)
              refine lv_iload hx hb d_p12m3_85 (lv_at hl 0 rfl) ?_
              refine pd_zeq (tgt := 108) hx hb d_p12m3_87 (by decide) (by decide) (fun q => absurd q (by decide)) (fun _ => ?_)
              refine lv_aload hx hb d_p12m3_90 (lv_at hl 2 rfl) ?_
              refine pd_get X w f3 rfl 1 (by decide) mT_905 rfl rfl d_p12m3_92 ?_
              refine lv_aload_n hx hb d_p12m3_95 rfl (lv_at hl 8 rfl) ?_
              refine pd_oload hx hb d_p12m3_96 (lv_at hl 9 rfl) ?_
              refine pd_cV (a := pa2) (As := [.ref (A j), va_rf (o.map B)]) (rest := []) X w f181 rfl (c_Pattern_fits l G h (by assumption) (by assumption) (by assumption) (by omega) (by assumption)) ok_Pattern_fits ⟨mT_953, mT_954⟩ mT_952 ⟨by decide, by decide⟩ rfl hl.1 rfl (Nat.le_of_ble_eq_true rfl) d_p12m3_98 ⟨by decide, by decide⟩ (fun r228 h229 H locs hp230 w => ?_)
              refine W.widen (k := 0) (n := 0) (by decide) (by decide) ?_
              obtain ⟨e231, rfl⟩ := hp230
              refine pd_beq (tgt := 108) hx hb d_p12m3_101 (by decide) (fun q232 => ?_) (fun q232 => ?_)
              · -- taken: 108
                refine pd_iinc (k := 3) (d := 1) (lv' := [(6, .int (nI (i + 1))), (9, .int (nI 1)), (8, .int (nI 1)), (7, .ref (C i)), (5, .ref (C i150)), (0, .ref x), (1, .ref (G.2.2.2 (10 + v1))), (2, .ref (G.2.2.2 (10 + v2))), (3, .ref (A j)), (4, va_rf (o.map B))]) hx hb d_p12m3_108 (by decide) hl rfl (by decide) rfl (fun ls hl => ?_)
                refine lv_goto (tgt := 6) hx hb d_p12m3_111 (by decide) ?_
                exact ih (i + 1) (some i150) (by omega) (fun t ht => by first | (cases ht; done) | (cases ht; omega)) ((gr_bst_n3 hv (e231.symm.trans q232)).trans q148) (by omega) _ _ w ls (lv_sub hl [0, 4, 5, 6, 7, 8, 9] rfl)
              · -- not taken: 104
                refine lv_aload hx hb d_p12m3_104 (lv_at hl 2 rfl) ?_
                refine lv_astore (lv' := [(5, .ref (C i)), (9, .int (nI 1)), (8, .int (nI 1)), (7, .ref (C i)), (6, .int (nI i)), (0, .ref x), (1, .ref (G.2.2.2 (10 + v1))), (2, .ref (G.2.2.2 (10 + v2))), (3, .ref (A j)), (4, va_rf (o.map B))]) hx hb d_p12m3_106 hl (by decide) (by simp [pd_cat]) (fun ls hl => ?_)
                refine pd_iinc (k := 4) (d := 1) (lv' := [(6, .int (nI (i + 1))), (5, .ref (C i)), (9, .int (nI 1)), (8, .int (nI 1)), (7, .ref (C i)), (0, .ref x), (1, .ref (G.2.2.2 (10 + v1))), (2, .ref (G.2.2.2 (10 + v2))), (3, .ref (A j)), (4, va_rf (o.map B))]) hx hb d_p12m3_108 (by decide) hl rfl (by decide) rfl (fun ls hl => ?_)
                refine lv_goto (tgt := 6) hx hb d_p12m3_111 (by decide) ?_
                exact ih (i + 1) (some i) (by omega) (fun t ht => by first | (cases ht; done) | (cases ht; omega)) (gr_bst_y hv hmt hbt (e231.symm.trans q232)) (by omega) _ _ w ls (lv_sub hl [0, 1, 5, 6, 7, 8, 9] rfl)
set_option maxHeartbeats 4000000 in
set_option maxRecDepth 100000 in
theorem c_Rules_best (l : Launch) (G : pd_G) (h : pd_H) {x : Nat} {B : Nat → Nat} {k : Nat} {C : Nat → Nat} {u : Nat} {U : Nat → pd_rr} {A : Nat → Nat} {n : Nat} {R : Nat → pd_cr} {M : Nat → pd_mr} {v1 v2 j : Nat} {o : Option Nat} (hU : pd_Ruls G h x B k C u U) (hR : pd_Rows G h A n R) (hMR : pd_MRows h A n B k M) (hv1 : v1 < 13) (hv2 : v2 < 13) (hjn : j < n) (ho : ∀ t, o = some t → t < k) : pd_M l y_Rules_best prog_12_method_3_code 10 (some (.object "PolicyDesk$RuleRow")) rm_Rules_best G h [.ref x, .ref (G.2.2.2 (10 + v1)), .ref (G.2.2.2 (10 + v2)), .ref (A j), va_rf (o.map B)] va_rf (fun r h1 => r = (gr_bst R M U v1 v2 j o u).map C ∧ h = h1) := by
  refine pd_M.of (by decide) (by cases o <;> exact Nat.le_of_ble_eq_true rfl) ?_
  intro p e s m below meth c X hmn w ls hl
  have hx := X.1
  have hb := X.2.1
  have hl : lv_has ls 10 [(0, .ref x), (1, .ref (G.2.2.2 (10 + v1))), (2, .ref (G.2.2.2 (10 + v2))), (3, .ref (A j)), (4, va_rf (o.map B))] := by simp only [lv_args, pd_cat] at hl; simpa [Value.category] using hl
  obtain ⟨ar, f, hx0, har, hfA, hz_x, hz_ar, hu24, hRR⟩ := id hU
  have hcw := hR.2.2
  have hn14 := hcw.1
  refine lv_null hx hb d_p12m3_0 ?_
  refine lv_astoreN (lv' := [(5, .null), (0, .ref x), (1, .ref (G.2.2.2 (10 + v1))), (2, .ref (G.2.2.2 (10 + v2))), (3, .ref (A j)), (4, va_rf (o.map B))]) hx hb d_p12m3_1 hl (by decide) (by simp [pd_cat]) (fun ls hl => ?_)
  refine lv_iconst (v := nI 0) hx hb d_p12m3_3 (by decide) ?_
  refine lv_istore (lv' := [(6, .int (nI 0)), (5, .null), (0, .ref x), (1, .ref (G.2.2.2 (10 + v1))), (2, .ref (G.2.2.2 (10 + v2))), (3, .ref (A j)), (4, va_rf (o.map B))]) hx hb d_p12m3_4 hl (by decide) rfl (fun ls hl => ?_)
  exact lp_Rules_best_6 l G h hU hR hMR hv1 hv2 hjn ho X hmn (u + 1) 0 none (by omega) (fun t ht => by cases ht) (rfl) (by omega) _ _ w ls (lv_sub hl [0, 1, 2, 3, 4, 5, 6] rfl)
