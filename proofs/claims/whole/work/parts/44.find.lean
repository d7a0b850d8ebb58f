/-! the reference's classes -/
def gm_fl (r : pd_cr) : List Nat := r.2.2.2.1.toList ++ r.2.2.2.2.1.toList
def gm_C (fv : Nat → Nat → Int32) (iv : Nat → Int32) (n : Nat) (R : Nat → pd_cr) : Prop := iv 12 = nI n ∧ 2 ≤ n ∧ n ≤ 14 ∧ ∀ k, k < n → fv 7 k = nI (R k).1.length ∧ (R k).1.length ≤ 24 ∧ (∀ i, i < (R k).1.length → fv 6 (24 * k + i) = nI ((R k).1.getD i 0)) ∧ (∀ x ∈ (R k).1, x < 256) ∧ fv 8 k = pd_m (R k).2.2.1 ∧ fv 11 k = pd_b (R k).2.1 ∧ fv 10 k = nI (gm_fl (R k)).length ∧ (∀ i, i < (gm_fl (R k)).length → fv 9 (2 * k + i) = nI ((gm_fl (R k)).getD i 0)) ∧ ((R k).2.2.2.1 = none → (R k).2.2.2.2.1 = none) ∧ gr_name (R k).1 = true
theorem tx_ne_len {a cs : List Nat} {x to : Nat} (hto : to ≤ cs.length) (h : ¬ a.length = to - x) : ¬ a = tx_sub cs x to := fun z => h (by rw [z, tx_sub_len hto])
theorem tx_ne_at {a cs : List Nat} {x to k : Nat} (hk : k < to - x) (h : ¬ a.getD k 0 = cs.getD (x + k) 0) : ¬ a = tx_sub cs x to := fun z => h (by rw [z, tx_sub_get hk])
theorem tx_ext9 {a b : List Nat} (hl : a.length = b.length) (h : ∀ t, t < a.length → a.getD t 0 = b.getD t 0) : a = b := by
  apply List.ext_getElem hl
  intro i h1 h2
  have := h i h1
  rwa [List.getD_eq_getElem?_getD, List.getD_eq_getElem?_getD, List.getElem?_eq_getElem h1, List.getElem?_eq_getElem h2] at this
theorem tx_eq_at {a cs : List Nat} {x to : Nat} (hto : to ≤ cs.length) (hl : a.length = to - x) (h : ∀ t, t < to - x → a.getD t 0 = cs.getD (x + t) 0) : a = tx_sub cs x to := by
  apply tx_ext9
  · rw [hl, tx_sub_len hto]
  · intro t ht
    rw [hl] at ht
    rw [tx_sub_get ht, h t ht]
theorem d_p15m19_0 : decode prog_15_method_19_code 0 = .ok (.iconst 0, 1) := by decide +kernel
theorem d_p15m19_1 : decode prog_15_method_19_code 1 = .ok (.istore_n 3, 1) := by decide +kernel
theorem d_p15m19_2 : decode prog_15_method_19_code 2 = .ok (.iload_n 3, 1) := by decide +kernel
theorem d_p15m19_3 : decode prog_15_method_19_code 3 = .ok (.aload_n 0, 1) := by decide +kernel
theorem d_p15m19_4 : decode prog_15_method_19_code 4 = .ok (.getfield 38, 3) := by decide +kernel
theorem d_p15m19_7 : decode prog_15_method_19_code 7 = .ok (.if_icmp .ge 88, 3) := by decide +kernel
theorem d_p15m19_10 : decode prog_15_method_19_code 10 = .ok (.aload_n 0, 1) := by decide +kernel
theorem d_p15m19_11 : decode prog_15_method_19_code 11 = .ok (.getfield 22, 3) := by decide +kernel
theorem d_p15m19_14 : decode prog_15_method_19_code 14 = .ok (.iload_n 3, 1) := by decide +kernel
theorem d_p15m19_15 : decode prog_15_method_19_code 15 = .ok (.iaload, 1) := by decide +kernel
theorem d_p15m19_16 : decode prog_15_method_19_code 16 = .ok (.iload_n 2, 1) := by decide +kernel
theorem d_p15m19_17 : decode prog_15_method_19_code 17 = .ok (.iload_n 1, 1) := by decide +kernel
theorem d_p15m19_18 : decode prog_15_method_19_code 18 = .ok (.isub, 1) := by decide +kernel
theorem d_p15m19_19 : decode prog_15_method_19_code 19 = .ok (.if_icmp .ne 7, 3) := by decide +kernel
theorem d_p15m19_22 : decode prog_15_method_19_code 22 = .ok (.iconst 1, 1) := by decide +kernel
theorem d_p15m19_23 : decode prog_15_method_19_code 23 = .ok (.goto 4, 3) := by decide +kernel
theorem d_p15m19_26 : decode prog_15_method_19_code 26 = .ok (.iconst 0, 1) := by decide +kernel
theorem d_p15m19_27 : decode prog_15_method_19_code 27 = .ok (.istore 4, 2) := by decide +kernel
theorem d_p15m19_29 : decode prog_15_method_19_code 29 = .ok (.iconst 0, 1) := by decide +kernel
theorem d_p15m19_30 : decode prog_15_method_19_code 30 = .ok (.istore 5, 2) := by decide +kernel
theorem d_p15m19_32 : decode prog_15_method_19_code 32 = .ok (.iload 5, 2) := by decide +kernel
theorem d_p15m19_34 : decode prog_15_method_19_code 34 = .ok (.iload_n 2, 1) := by decide +kernel
theorem d_p15m19_35 : decode prog_15_method_19_code 35 = .ok (.iload_n 1, 1) := by decide +kernel
theorem d_p15m19_36 : decode prog_15_method_19_code 36 = .ok (.isub, 1) := by decide +kernel
theorem d_p15m19_37 : decode prog_15_method_19_code 37 = .ok (.if_icmp .ge 45, 3) := by decide +kernel
theorem d_p15m19_40 : decode prog_15_method_19_code 40 = .ok (.iload 4, 2) := by decide +kernel
theorem d_p15m19_42 : decode prog_15_method_19_code 42 = .ok (.ifCond .eq 40, 3) := by decide +kernel
theorem d_p15m19_45 : decode prog_15_method_19_code 45 = .ok (.aload_n 0, 1) := by decide +kernel
theorem d_p15m19_46 : decode prog_15_method_19_code 46 = .ok (.getfield 19, 3) := by decide +kernel
theorem d_p15m19_49 : decode prog_15_method_19_code 49 = .ok (.bipush 24, 2) := by decide +kernel
theorem d_p15m19_51 : decode prog_15_method_19_code 51 = .ok (.iload_n 3, 1) := by decide +kernel
theorem d_p15m19_52 : decode prog_15_method_19_code 52 = .ok (.imul, 1) := by decide +kernel
theorem d_p15m19_53 : decode prog_15_method_19_code 53 = .ok (.iload 5, 2) := by decide +kernel
theorem d_p15m19_55 : decode prog_15_method_19_code 55 = .ok (.iadd, 1) := by decide +kernel
theorem d_p15m19_56 : decode prog_15_method_19_code 56 = .ok (.iaload, 1) := by decide +kernel
theorem d_p15m19_57 : decode prog_15_method_19_code 57 = .ok (.aload_n 0, 1) := by decide +kernel
theorem d_p15m19_58 : decode prog_15_method_19_code 58 = .ok (.getfield 7, 3) := by decide +kernel
theorem d_p15m19_61 : decode prog_15_method_19_code 61 = .ok (.iload_n 1, 1) := by decide +kernel
theorem d_p15m19_62 : decode prog_15_method_19_code 62 = .ok (.iload 5, 2) := by decide +kernel
theorem d_p15m19_64 : decode prog_15_method_19_code 64 = .ok (.iadd, 1) := by decide +kernel
theorem d_p15m19_65 : decode prog_15_method_19_code 65 = .ok (.iaload, 1) := by decide +kernel
theorem d_p15m19_66 : decode prog_15_method_19_code 66 = .ok (.if_icmp .ne 7, 3) := by decide +kernel
theorem d_p15m19_69 : decode prog_15_method_19_code 69 = .ok (.iconst 1, 1) := by decide +kernel
theorem d_p15m19_70 : decode prog_15_method_19_code 70 = .ok (.goto 4, 3) := by decide +kernel
theorem d_p15m19_73 : decode prog_15_method_19_code 73 = .ok (.iconst 0, 1) := by decide +kernel
theorem d_p15m19_74 : decode prog_15_method_19_code 74 = .ok (.istore 4, 2) := by decide +kernel
theorem d_p15m19_76 : decode prog_15_method_19_code 76 = .ok (.iinc 5 1, 3) := by decide +kernel
theorem d_p15m19_79 : decode prog_15_method_19_code 79 = .ok (.goto (-47), 3) := by decide +kernel
theorem d_p15m19_82 : decode prog_15_method_19_code 82 = .ok (.iload 4, 2) := by decide +kernel
theorem d_p15m19_84 : decode prog_15_method_19_code 84 = .ok (.ifCond .eq 5, 3) := by decide +kernel
theorem d_p15m19_87 : decode prog_15_method_19_code 87 = .ok (.iload_n 3, 1) := by decide +kernel
theorem d_p15m19_88 : decode prog_15_method_19_code 88 = .ok (.ireturn, 1) := by decide +kernel
theorem d_p15m19_89 : decode prog_15_method_19_code 89 = .ok (.iinc 3 1, 3) := by decide +kernel
theorem d_p15m19_92 : decode prog_15_method_19_code 92 = .ok (.goto (-90), 3) := by decide +kernel
theorem d_p15m19_95 : decode prog_15_method_19_code 95 = .ok (.iconst (-1), 1) := by decide +kernel
theorem d_p15m19_96 : decode prog_15_method_19_code 96 = .ok (.ireturn, 1) := by decide +kernel
abbrev y_Mod_find : MethodName := ⟨"PolicyDeskModel", "find", "(II)I"⟩
theorem ok_Mod_find : pd_ok y_Mod_find prog_15_method_19_code 6 (some .int) 2 := ⟨mT_1327, mT_21, by decide, by decide +kernel⟩
abbrev rm_Mod_find : Room := { frames := 0, cells := 0, slots := 0, locals := 0 }
set_option maxHeartbeats 4000000 in
set_option maxRecDepth 100000 in
theorem lp_Mod_find_J1 (l : Launch) (G : pd_G) (h : pd_H) {y : Nat} {ad : Nat → Nat} {fv : Nat → Nat → Int32} {iv : Nat → Int32} {tl : Int64} {cs : List Nat} {n : Nat} {R : Nat → pd_cr} {x to : Nat} (hMO : pd_MO G h y ad fv iv tl) (hL : gm_L fv iv cs) (hC : gm_C fv iv n R) (hto : to ≤ cs.length) (hxt : x ≤ to) {p : Program} {e : Env} {s : State} {m : MethodId} {below : List Frame} {meth : Method} {c : Code} (X : pd_B p s m [.ref y, .int (nI x), .int (nI to)].toArray meth c G y_Mod_find.cls prog_15_method_19_code 6 (some .int)) (hmn : meth.name = y_Mod_find.name) :
    ∀ (kk9 : Nat), (∀ (c9 : Nat), (c9 ≤ n) → (∀ t, t < c9 → decide ((R t).1 = tx_sub cs x to) = false) → (n - c9) * 100 < kk9 → ∀ (H : Heap) (locs : List Loc), pd_w G s H locs h → ∀ ls : Array Slot, lv_has ls 6 [(3, .int (nI c9)), (0, .ref y), (1, .int (nI x)), (2, .int (nI to))] → W p l e rm_Mod_find s m [.ref y, .int (nI x), .int (nI to)].toArray below meth c H locs 0 0 (MQ below (pd_Q G pd_vm (fun r h1 => r = gr_find R n (tx_sub cs x to) ∧ h = h1)) [.ref y, .int (nI x), .int (nI to)].toArray s rm_Mod_find.cells rm_Mod_find.slots (fun q => G.2.1 ≤ q)) (F0 m 2 ls [])) ∧ (∀ (c9 : Nat) (k9 : Nat) (sm : Bool), (c9 < n) → (∀ t, t < c9 → decide ((R t).1 = tx_sub cs x to) = false) → (k9 ≤ to - x) → (sm = true → (R c9).1.length = to - x ∧ ∀ t, t < k9 → (R c9).1.getD t 0 = cs.getD (x + t) 0) → (sm = false → ¬ (R c9).1 = tx_sub cs x to) → (n - c9) * 100 - 1 - k9 < kk9 → ∀ (H : Heap) (locs : List Loc), pd_w G s H locs h → ∀ ls : Array Slot, lv_has ls 6 [(5, .int (nI k9)), (4, .int (pd_b sm)), (3, .int (nI c9)), (0, .ref y), (1, .int (nI x)), (2, .int (nI to))] → W p l e rm_Mod_find s m [.ref y, .int (nI x), .int (nI to)].toArray below meth c H locs 0 0 (MQ below (pd_Q G pd_vm (fun r h1 => r = gr_find R n (tx_sub cs x to) ∧ h = h1)) [.ref y, .int (nI x), .int (nI to)].toArray s rm_Mod_find.cells rm_Mod_find.slots (fun q => G.2.1 ≤ q)) (F0 m 32 ls [])) := by
  have hx := X.1
  have hb := X.2.1
  have hz_y := hMO.2.1
  have hy0 : h y = some (20, .inr (10, [.ref (ad 0), .ref (ad 1), .ref (ad 2), .int (iv 3), .int (iv 4), .int (iv 5), .ref (ad 6), .ref (ad 7), .ref (ad 8), .ref (ad 9), .ref (ad 10), .ref (ad 11), .int (iv 12), .ref (ad 13), .ref (ad 14), .ref (ad 15), .ref (ad 16), .ref (ad 17), .ref (ad 18), .ref (ad 19), .int (iv 20), .ref (ad 21), .ref (ad 22), .ref (ad 23), .ref (ad 24), .ref (ad 25), .ref (ad 26), .ref (ad 27), .ref (ad 28), .int (iv 29), .ref (ad 30), .ref (ad 31), .int (iv 32), .int (iv 33), .int (iv 34), .int (iv 35), .long tl, .int (iv 37), .int (iv 38), .int (iv 39), .int (iv 40), .ref (ad 41), .ref (ad 42), .int (iv 43)])) := hMO.1
  have ha0 : h (ad 0) = some (30, .inl (.int, 60, .inl (fv 0))) := (hMO.2.2 0 (by decide)).1
  have ha6 : h (ad 6) = some (36, .inl (.int, 336, .inl (fv 6))) := (hMO.2.2 6 (by decide)).1
  have ha7 : h (ad 7) = some (37, .inl (.int, 14, .inl (fv 7))) := (hMO.2.2 7 (by decide)).1
  obtain ⟨hiv3, hln, hl60, hlc⟩ := id hL
  obtain ⟨hiv12, hn2, hn14, hCc⟩ := id hC
  intro kk9
  induction kk9 with
  | zero => exact ⟨by intros; omega, by intros; omega⟩
  | succ kk9 ih =>
    refine ⟨?_, ?_⟩
    · intro c9 hc9 hno hmu H locs w ls hl
      refine lv_iload_n hx hb d_p15m19_2 rfl (lv_at hl 0 rfl) ?_
      refine lv_aload_n hx hb d_p15m19_3 rfl (lv_at hl 1 rfl) ?_
      refine pd_get X w hy0 rfl 12 (by decide) mT_1151 rfl rfl d_p15m19_4 ?_
      refine pd_top (v' := .int (nI n)) (congrArg Value.int hiv12) ?_
      refine pd_jge (tgt := 95) hx hb d_p15m19_7 (by decide) (by omega) (by omega) (fun q1 => ?_) (fun q1 => ?_)
      · -- taken: 95
        refine lv_iconst (v := -1) hx hb d_p15m19_95 (by decide) ?_
        refine W.eq (g2 := F0 m 96 ls [.int (pd_m none)]) rfl ?_
        exact pd_mret (v := none) X w ⟨by unfold gr_find; rw [gr_fi_none (fun t ht => hno t (by omega))], rfl⟩ (by decide) (by decide) d_p15m19_96
      · -- not taken: 10
        refine lv_aload_n hx hb d_p15m19_10 rfl (lv_at hl 1 rfl) ?_
        refine pd_get X w hy0 rfl 7 (by decide) mT_1146 rfl rfl d_p15m19_11 ?_
        refine lv_iload_n hx hb d_p15m19_14 rfl (lv_at hl 0 rfl) ?_
        refine pd_iald X w ha7 (by omega) (by omega) d_p15m19_15 ?_
        refine pd_top (v' := .int (nI ((R c9).1.length))) (congrArg Value.int (hCc c9 (by omega)).1) ?_
        have hcl := (hCc c9 (by omega)).2.1
        refine lv_iload_n hx hb d_p15m19_16 rfl (lv_at hl 3 rfl) ?_
        refine lv_iload_n hx hb d_p15m19_17 rfl (lv_at hl 2 rfl) ?_
        refine pd_isub hx hb d_p15m19_18 (by omega) ?_
        refine pd_jne (tgt := 26) hx hb d_p15m19_19 (by decide) (by omega) (by omega) (fun q2 => ?_) (fun q2 => ?_)
        · -- taken: 26
          refine lv_iconst (v := nI 0) hx hb d_p15m19_26 (by decide) ?_
          refine lv_istore (lv' := [(4, .int (nI 0)), (3, .int (nI c9)), (0, .ref y), (1, .int (nI x)), (2, .int (nI to))]) hx hb d_p15m19_27 hl (by decide) rfl (fun ls hl => ?_)
          refine lv_iconst (v := nI 0) hx hb d_p15m19_29 (by decide) ?_
          refine lv_istore (lv' := [(5, .int (nI 0)), (4, .int (nI 0)), (3, .int (nI c9)), (0, .ref y), (1, .int (nI x)), (2, .int (nI to))]) hx hb d_p15m19_30 hl (by decide) rfl (fun ls hl => ?_)
          exact ih.2 c9 0 false (by omega) (hno) (by omega) (fun z => by cases z) (fun _ => tx_ne_len hto (by omega)) (by omega) _ _ w ls (lv_sub hl [0, 1, 2, 3, 4, 5] rfl)
        · -- not taken: 22
          refine lv_iconst (v := nI 1) hx hb d_p15m19_22 (by decide) ?_
          refine lv_goto (tgt := 27) hx hb d_p15m19_23 (by decide) ?_
          refine lv_istore (lv' := [(4, .int (nI 1)), (3, .int (nI c9)), (0, .ref y), (1, .int (nI x)), (2, .int (nI to))]) hx hb d_p15m19_27 hl (by decide) rfl (fun ls hl => ?_)
          refine lv_iconst (v := nI 0) hx hb d_p15m19_29 (by decide) ?_
          refine lv_istore (lv' := [(5, .int (nI 0)), (4, .int (nI 1)), (3, .int (nI c9)), (0, .ref y), (1, .int (nI x)), (2, .int (nI to))]) hx hb d_p15m19_30 hl (by decide) rfl (fun ls hl => ?_)
          exact ih.2 c9 0 true (by omega) (hno) (by omega) (fun _ => ⟨by omega, fun t ht => absurd ht (Nat.not_lt_zero t)⟩) (fun z => by cases z) (by omega) _ _ w ls (lv_sub hl [0, 1, 2, 3, 4, 5] rfl)
    · intro c9 k9 sm hc9 hno hk9 hsm hns hmu H locs w ls hl
      refine lv_iload hx hb d_p15m19_32 (lv_at hl 0 rfl) ?_
      refine lv_iload_n hx hb d_p15m19_34 rfl (lv_at hl 5 rfl) ?_
      refine lv_iload_n hx hb d_p15m19_35 rfl (lv_at hl 4 rfl) ?_
      refine pd_isub hx hb d_p15m19_36 (by omega) ?_
      refine pd_jge (tgt := 82) hx hb d_p15m19_37 (by decide) (by omega) (by omega) (fun q1 => ?_) (fun q1 => ?_)
      · -- taken: 82
        refine lv_iload hx hb d_p15m19_82 (lv_at hl 1 rfl) ?_
        refine pd_beq (tgt := 89) hx hb d_p15m19_84 (by decide) (fun q2 => ?_) (fun q2 => ?_)
        · -- taken: 89
          refine pd_iinc (k := 2) (d := 1) (lv' := [(3, .int (nI (c9 + 1))), (5, .int (nI k9)), (4, .int (pd_b sm)), (0, .ref y), (1, .int (nI x)), (2, .int (nI to))]) hx hb d_p15m19_89 (by decide) hl rfl (by decide) rfl (fun ls hl => ?_)
          refine lv_goto (tgt := 2) hx hb d_p15m19_92 (by decide) ?_
          exact ih.1 (c9 + 1) (by omega) (fun t ht => by by_cases e9 : t = c9; subst e9; exact decide_eq_false (hns q2); exact hno t (by omega)) (by omega) _ _ w ls (lv_sub hl [0, 3, 4, 5] rfl)
        · -- not taken: 87
          refine lv_iload_n hx hb d_p15m19_87 rfl (lv_at hl 2 rfl) ?_
          refine W.eq (g2 := F0 m 88 ls [.int (pd_m (some c9))]) rfl ?_
          exact pd_mret (v := (some c9)) X w ⟨by unfold gr_find; rw [gr_fi_some hc9 hno (decide_eq_true (tx_eq_at hto (hsm q2).1 (fun t ht => (hsm q2).2 t (by omega))))], rfl⟩ (by decide) (by decide) d_p15m19_88
      · -- not taken: 40
        refine lv_iload hx hb d_p15m19_40 (lv_at hl 1 rfl) ?_
        refine pd_beq (tgt := 82) hx hb d_p15m19_42 (by decide) (fun q3 => ?_) (fun q3 => ?_)
        · -- taken: 82
          rw [q3] at hl
          have hl : lv_has ls 6 [(5, .int (nI k9)), (4, .int (nI 0)), (3, .int (nI c9)), (0, .ref y), (1, .int (nI x)), (2, .int (nI to))] := hl
          refine lv_iload hx hb d_p15m19_82 (lv_at hl 1 rfl) ?_
          refine pd_zeq (tgt := 89) hx hb d_p15m19_84 (by decide) (by decide) (fun _ => ?_) (fun q => absurd q (by decide))
          refine pd_iinc (k := 2) (d := 1) (lv' := [(3, .int (nI (c9 + 1))), (5, .int (nI k9)), (4, .int (nI 0)), (0, .ref y), (1, .int (nI x)), (2, .int (nI to))]) hx hb d_p15m19_89 (by decide) hl rfl (by decide) rfl (fun ls hl => ?_)
          refine lv_goto (tgt := 2) hx hb d_p15m19_92 (by decide) ?_
          exact ih.1 (c9 + 1) (by omega) (fun t ht => by by_cases e9 : t = c9; subst e9; exact decide_eq_false (hns q3); exact hno t (by omega)) (by omega) _ _ w ls (lv_sub hl [0, 3, 4, 5] rfl)
        · -- not taken: 45
          have hq := hsm q3
          have hcl := (hCc c9 (by omega)).2.1
          refine lv_aload_n hx hb d_p15m19_45 rfl (lv_at hl 3 rfl) ?_
          refine pd_get X w hy0 rfl 6 (by decide) mT_1145 rfl rfl d_p15m19_46 ?_
          refine lv_bipush (v := nI 24) hx hb d_p15m19_49 (by decide) ?_
          refine lv_iload_n hx hb d_p15m19_51 rfl (lv_at hl 2 rfl) ?_
          refine pd_imul hx hb d_p15m19_52 ?_
          refine lv_iload hx hb d_p15m19_53 (lv_at hl 0 rfl) ?_
          refine pd_iadd hx hb d_p15m19_55 ?_
          refine pd_iald X w ha6 (by omega) (by omega) d_p15m19_56 ?_
          refine pd_top (v' := .int (nI ((R c9).1.getD k9 0))) (congrArg Value.int ((hCc c9 (by omega)).2.2.1 k9 (by omega))) ?_
          have := tx_lt (hCc c9 (by omega)).2.2.2.1 k9
          refine lv_aload_n hx hb d_p15m19_57 rfl (lv_at hl 3 rfl) ?_
          refine pd_get X w hy0 rfl 0 (by decide) mT_1139 rfl rfl d_p15m19_58 ?_
          refine lv_iload_n hx hb d_p15m19_61 rfl (lv_at hl 4 rfl) ?_
          refine lv_iload hx hb d_p15m19_62 (lv_at hl 0 rfl) ?_
          refine pd_iadd hx hb d_p15m19_64 ?_
          refine pd_iald X w ha0 (by omega) (by omega) d_p15m19_65 ?_
          refine pd_top (v' := .int (nI (cs.getD (x + k9) 0))) (congrArg Value.int (hln _ (by omega))) ?_
          have := tx_lt hlc (x + k9)
          refine pd_jne (tgt := 73) hx hb d_p15m19_66 (by decide) (by omega) (by omega) (fun q5 => ?_) (fun q5 => ?_)
          · -- taken: 73
            refine lv_iconst (v := nI 0) hx hb d_p15m19_73 (by decide) ?_
            refine lv_istore (lv' := [(4, .int (nI 0)), (5, .int (nI k9)), (3, .int (nI c9)), (0, .ref y), (1, .int (nI x)), (2, .int (nI to))]) hx hb d_p15m19_74 hl (by decide) rfl (fun ls hl => ?_)
            refine pd_iinc (k := 1) (d := 1) (lv' := [(5, .int (nI (k9 + 1))), (4, .int (nI 0)), (3, .int (nI c9)), (0, .ref y), (1, .int (nI x)), (2, .int (nI to))]) hx hb d_p15m19_76 (by decide) hl rfl (by decide) rfl (fun ls hl => ?_)
            refine lv_goto (tgt := 32) hx hb d_p15m19_79 (by decide) ?_
            exact ih.2 c9 (k9 + 1) false (by omega) (hno) (by omega) (fun z => by cases z) (fun _ => tx_ne_at (k := k9) (by omega) (by omega)) (by omega) _ _ w ls (lv_sub hl [0, 1, 2, 3, 4, 5] rfl)
          · -- not taken: 69
            refine lv_iconst (v := nI 1) hx hb d_p15m19_69 (by decide) ?_
            refine lv_goto (tgt := 74) hx hb d_p15m19_70 (by decide) ?_
            refine lv_istore (lv' := [(4, .int (nI 1)), (5, .int (nI k9)), (3, .int (nI c9)), (0, .ref y), (1, .int (nI x)), (2, .int (nI to))]) hx hb d_p15m19_74 hl (by decide) rfl (fun ls hl => ?_)
            refine pd_iinc (k := 1) (d := 1) (lv' := [(5, .int (nI (k9 + 1))), (4, .int (nI 1)), (3, .int (nI c9)), (0, .ref y), (1, .int (nI x)), (2, .int (nI to))]) hx hb d_p15m19_76 (by decide) hl rfl (by decide) rfl (fun ls hl => ?_)
            refine lv_goto (tgt := 32) hx hb d_p15m19_79 (by decide) ?_
            exact ih.2 c9 (k9 + 1) true (by omega) (hno) (by omega) (fun _ => ⟨hq.1, fun t ht => by by_cases e9 : t = k9; subst e9; omega; exact hq.2 t (by omega)⟩) (fun z => by cases z) (by omega) _ _ w ls (lv_sub hl [0, 1, 2, 3, 4, 5] rfl)
set_option maxHeartbeats 4000000 in
set_option maxRecDepth 100000 in
theorem c_Mod_find (l : Launch) (G : pd_G) (h : pd_H) {y : Nat} {ad : Nat → Nat} {fv : Nat → Nat → Int32} {iv : Nat → Int32} {tl : Int64} {cs : List Nat} {n : Nat} {R : Nat → pd_cr} {x to : Nat} (hMO : pd_MO G h y ad fv iv tl) (hL : gm_L fv iv cs) (hC : gm_C fv iv n R) (hto : to ≤ cs.length) (hxt : x ≤ to) : pd_M l y_Mod_find prog_15_method_19_code 6 (some .int) rm_Mod_find G h [.ref y, .int (nI x), .int (nI to)] pd_vm (fun r h1 => r = gr_find R n (tx_sub cs x to) ∧ h = h1) := by
  refine pd_M.of (by decide) (Nat.le_of_ble_eq_true rfl) ?_
  intro p e s m below meth c X hmn w ls hl
  have hx := X.1
  have hb := X.2.1
  have hl : lv_has ls 6 [(0, .ref y), (1, .int (nI x)), (2, .int (nI to))] := hl
  have hz_y := hMO.2.1
  have hy0 : h y = some (20, .inr (10, [.ref (ad 0), .ref (ad 1), .ref (ad 2), .int (iv 3), .int (iv 4), .int (iv 5), .ref (ad 6), .ref (ad 7), .ref (ad 8), .ref (ad 9), .ref (ad 10), .ref (ad 11), .int (iv 12), .ref (ad 13), .ref (ad 14), .ref (ad 15), .ref (ad 16), .ref (ad 17), .ref (ad 18), .ref (ad 19), .int (iv 20), .ref (ad 21), .ref (ad 22), .ref (ad 23), .ref (ad 24), .ref (ad 25), .ref (ad 26), .ref (ad 27), .ref (ad 28), .int (iv 29), .ref (ad 30), .ref (ad 31), .int (iv 32), .int (iv 33), .int (iv 34), .int (iv 35), .long tl, .int (iv 37), .int (iv 38), .int (iv 39), .int (iv 40), .ref (ad 41), .ref (ad 42), .int (iv 43)])) := hMO.1
  have ha0 : h (ad 0) = some (30, .inl (.int, 60, .inl (fv 0))) := (hMO.2.2 0 (by decide)).1
  have ha6 : h (ad 6) = some (36, .inl (.int, 336, .inl (fv 6))) := (hMO.2.2 6 (by decide)).1
  have ha7 : h (ad 7) = some (37, .inl (.int, 14, .inl (fv 7))) := (hMO.2.2 7 (by decide)).1
  obtain ⟨hiv3, hln, hl60, hlc⟩ := id hL
  obtain ⟨hiv12, hn2, hn14, hCc⟩ := id hC
  refine lv_iconst (v := nI 0) hx hb d_p15m19_0 (by decide) ?_
  refine lv_istore_n (lv' := [(3, .int (nI 0)), (0, .ref y), (1, .int (nI x)), (2, .int (nI to))]) hx hb d_p15m19_1 rfl hl (by decide) rfl (fun ls hl => ?_)
  exact (lp_Mod_find_J1 l G h hMO hL hC hto hxt X hmn (n * 100 + 1)).1 0 (by omega) (fun t ht => absurd ht (Nat.not_lt_zero t)) (by omega) _ _ w ls (lv_sub hl [0, 1, 2, 3] rfl)
theorem d_p15m20_0 : decode prog_15_method_20_code 0 = .ok (.aload_n 0, 1) := by decide +kernel
theorem d_p15m20_1 : decode prog_15_method_20_code 1 = .ok (.aload_n 0, 1) := by decide +kernel
theorem d_p15m20_2 : decode prog_15_method_20_code 2 = .ok (.getfield 13, 3) := by decide +kernel
theorem d_p15m20_5 : decode prog_15_method_20_code 5 = .ok (.iload_n 1, 1) := by decide +kernel
theorem d_p15m20_6 : decode prog_15_method_20_code 6 = .ok (.iaload, 1) := by decide +kernel
theorem d_p15m20_7 : decode prog_15_method_20_code 7 = .ok (.aload_n 0, 1) := by decide +kernel
theorem d_p15m20_8 : decode prog_15_method_20_code 8 = .ok (.getfield 16, 3) := by decide +kernel
theorem d_p15m20_11 : decode prog_15_method_20_code 11 = .ok (.iload_n 1, 1) := by decide +kernel
theorem d_p15m20_12 : decode prog_15_method_20_code 12 = .ok (.iaload, 1) := by decide +kernel
theorem d_p15m20_13 : decode prog_15_method_20_code 13 = .ok (.invokevirtual 145, 3) := by decide +kernel
theorem d_p15m20_16 : decode prog_15_method_20_code 16 = .ok (.ireturn, 1) := by decide +kernel
abbrev y_Mod_classOf : MethodName := ⟨"PolicyDeskModel", "classOf", "(I)I"⟩
theorem ok_Mod_classOf : pd_ok y_Mod_classOf prog_15_method_20_code 2 (some .int) 1 := ⟨mT_1323, mT_21, by decide, by decide +kernel⟩
abbrev rm_Mod_classOf : Room := { frames := 1, cells := 0, slots := 0, locals := 25 }
set_option maxHeartbeats 4000000 in
set_option maxRecDepth 100000 in
theorem c_Mod_classOf (l : Launch) (G : pd_G) (h : pd_H) {y : Nat} {ad : Nat → Nat} {fv : Nat → Nat → Int32} {iv : Nat → Int32} {tl : Int64} {cs : List Nat} {nw i0 : Nat} {sA eA : Nat → Nat} {n : Nat} {R : Nat → pd_cr} (hMO : pd_MO G h y ad fv iv tl) (hL : gm_L fv iv cs) (hW : gm_W fv cs nw sA eA) (hiw : i0 < nw) (hC : gm_C fv iv n R) : pd_M l y_Mod_classOf prog_15_method_20_code 2 (some .int) rm_Mod_classOf G h [.ref y, .int (nI i0)] pd_vm (fun r h1 => r = gr_find R n (tx_sub cs (sA i0) (eA i0)) ∧ h = h1) := by
  refine pd_M.of (by decide) (Nat.le_of_ble_eq_true rfl) ?_
  intro p e s m below meth c X hmn w ls hl
  have hx := X.1
  have hb := X.2.1
  have hl : lv_has ls 2 [(0, .ref y), (1, .int (nI i0))] := hl
  have hz_y := hMO.2.1
  have hy0 : h y = some (20, .inr (10, [.ref (ad 0), .ref (ad 1), .ref (ad 2), .int (iv 3), .int (iv 4), .int (iv 5), .ref (ad 6), .ref (ad 7), .ref (ad 8), .ref (ad 9), .ref (ad 10), .ref (ad 11), .int (iv 12), .ref (ad 13), .ref (ad 14), .ref (ad 15), .ref (ad 16), .ref (ad 17), .ref (ad 18), .ref (ad 19), .int (iv 20), .ref (ad 21), .ref (ad 22), .ref (ad 23), .ref (ad 24), .ref (ad 25), .ref (ad 26), .ref (ad 27), .ref (ad 28), .int (iv 29), .ref (ad 30), .ref (ad 31), .int (iv 32), .int (iv 33), .int (iv 34), .int (iv 35), .long tl, .int (iv 37), .int (iv 38), .int (iv 39), .int (iv 40), .ref (ad 41), .ref (ad 42), .int (iv 43)])) := hMO.1
  have ha1 : h (ad 1) = some (31, .inl (.int, 40, .inl (fv 1))) := (hMO.2.2 1 (by decide)).1
  have ha2 : h (ad 2) = some (32, .inl (.int, 40, .inl (fv 2))) := (hMO.2.2 2 (by decide)).1
  obtain ⟨hiv3, hln, hl60, hlc⟩ := id hL
  have hw31 := hW.1
  obtain ⟨hws, hwe, hwl, hwc⟩ := hW.2 i0 hiw
  refine lv_aload_n hx hb d_p15m20_0 rfl (lv_at hl 0 rfl) ?_
  refine lv_aload_n hx hb d_p15m20_1 rfl (lv_at hl 0 rfl) ?_
  refine pd_get X w hy0 rfl 1 (by decide) mT_1140 rfl rfl d_p15m20_2 ?_
  refine lv_iload_n hx hb d_p15m20_5 rfl (lv_at hl 1 rfl) ?_
  refine pd_iald X w ha1 (by omega) (by omega) d_p15m20_6 ?_
  refine pd_top (v' := .int (nI (sA i0))) (congrArg Value.int hws) ?_
  refine lv_aload_n hx hb d_p15m20_7 rfl (lv_at hl 0 rfl) ?_
  refine pd_get X w hy0 rfl 2 (by decide) mT_1141 rfl rfl d_p15m20_8 ?_
  refine lv_iload_n hx hb d_p15m20_11 rfl (lv_at hl 1 rfl) ?_
  refine pd_iald X w ha2 (by omega) (by omega) d_p15m20_12 ?_
  refine pd_top (v' := .int (nI (eA i0))) (congrArg Value.int hwe) ?_
  refine pd_cV (a := y) (As := [.int (nI (sA i0)), .int (nI (eA i0))]) (rest := []) X w hy0 rfl (c_Mod_find l G h (ad := ad) (fv := fv) (iv := iv) (tl := tl) hMO (by assumption) (by assumption) (by omega) (by omega)) ok_Mod_find ⟨mT_1326, sT_21⟩ mT_1324 ⟨by decide, by decide⟩ rfl hl.1 rfl (Nat.le_of_ble_eq_true rfl) d_p15m20_13 ⟨by decide, by decide⟩ (fun r1 h2 H locs hp3 w => ?_)
  refine W.widen (k := 0) (n := 0) (by decide) (by decide) ?_
  obtain ⟨e4, rfl⟩ := hp3
  exact pd_mret (v := r1) X w ⟨by assumption, rfl⟩ (by decide) (by decide) d_p15m20_16
/-- the order of a search -/
def gm_O (fv : Nat → Nat → Int32) (iv : Nat → Int32) (od : List Nat) : Prop := iv 43 = nI od.length ∧ od.length ≤ 14 ∧ ∀ i, i < od.length → fv 41 i = nI (od.getD i 0) ∧ od.getD i 0 < 14
theorem d_p15m24_0 : decode prog_15_method_24_code 0 = .ok (.iconst 0, 1) := by decide +kernel
theorem d_p15m24_1 : decode prog_15_method_24_code 1 = .ok (.istore_n 2, 1) := by decide +kernel
theorem d_p15m24_2 : decode prog_15_method_24_code 2 = .ok (.iload_n 2, 1) := by decide +kernel
theorem d_p15m24_3 : decode prog_15_method_24_code 3 = .ok (.aload_n 0, 1) := by decide +kernel
theorem d_p15m24_4 : decode prog_15_method_24_code 4 = .ok (.getfield 158, 3) := by decide +kernel
theorem d_p15m24_7 : decode prog_15_method_24_code 7 = .ok (.if_icmp .ge 21, 3) := by decide +kernel
theorem d_p15m24_10 : decode prog_15_method_24_code 10 = .ok (.aload_n 0, 1) := by decide +kernel
theorem d_p15m24_11 : decode prog_15_method_24_code 11 = .ok (.getfield 93, 3) := by decide +kernel
theorem d_p15m24_14 : decode prog_15_method_24_code 14 = .ok (.iload_n 2, 1) := by decide +kernel
theorem d_p15m24_15 : decode prog_15_method_24_code 15 = .ok (.iaload, 1) := by decide +kernel
theorem d_p15m24_16 : decode prog_15_method_24_code 16 = .ok (.iload_n 1, 1) := by decide +kernel
theorem d_p15m24_17 : decode prog_15_method_24_code 17 = .ok (.if_icmp .ne 5, 3) := by decide +kernel
theorem d_p15m24_20 : decode prog_15_method_24_code 20 = .ok (.iconst 1, 1) := by decide +kernel
theorem d_p15m24_21 : decode prog_15_method_24_code 21 = .ok (.ireturn, 1) := by decide +kernel
theorem d_p15m24_22 : decode prog_15_method_24_code 22 = .ok (.iinc 2 1, 3) := by decide +kernel
theorem d_p15m24_25 : decode prog_15_method_24_code 25 = .ok (.goto (-23), 3) := by decide +kernel
theorem d_p15m24_28 : decode prog_15_method_24_code 28 = .ok (.iconst 0, 1) := by decide +kernel
theorem d_p15m24_29 : decode prog_15_method_24_code 29 = .ok (.ireturn, 1) := by decide +kernel
abbrev y_Mod_isOrdered : MethodName := ⟨"PolicyDeskModel", "isOrdered", "(I)Z"⟩
theorem ok_Mod_isOrdered : pd_ok y_Mod_isOrdered prog_15_method_24_code 3 (some .boolean) 1 := ⟨mT_1404, mT_21, by decide, by decide +kernel⟩
abbrev rm_Mod_isOrdered : Room := { frames := 0, cells := 0, slots := 0, locals := 0 }
set_option maxHeartbeats 4000000 in
set_option maxRecDepth 100000 in
theorem lp_Mod_isOrdered_2 (l : Launch) (G : pd_G) (h : pd_H) {y : Nat} {ad : Nat → Nat} {fv : Nat → Nat → Int32} {iv : Nat → Int32} {tl : Int64} {od : List Nat} {q9 : Nat} (hMO : pd_MO G h y ad fv iv tl) (hO : gm_O fv iv od) (hq9 : q9 < 14) {p : Program} {e : Env} {s : State} {m : MethodId} {below : List Frame} {meth : Method} {c : Code} (X : pd_B p s m [.ref y, .int (nI q9)].toArray meth c G y_Mod_isOrdered.cls prog_15_method_24_code 3 (some .boolean)) (hmn : meth.name = y_Mod_isOrdered.name) :
    ∀ (kk9 : Nat) (i : Nat), (i ≤ od.length) → (∀ t, t < i → ¬ od.getD t 0 = q9) → od.length - i < kk9 → ∀ (H : Heap) (locs : List Loc), pd_w G s H locs h → ∀ ls : Array Slot, lv_has ls 3 [(2, .int (nI i)), (0, .ref y), (1, .int (nI q9))] → W p l e rm_Mod_isOrdered s m [.ref y, .int (nI q9)].toArray below meth c H locs 0 0 (MQ below (pd_Q G pd_vb (fun r h1 => r = decide (q9 ∈ od) ∧ h = h1)) [.ref y, .int (nI q9)].toArray s rm_Mod_isOrdered.cells rm_Mod_isOrdered.slots (fun q => G.2.1 ≤ q)) (F0 m 2 ls []) := by
  have hx := X.1
  have hb := X.2.1
  have hz_y := hMO.2.1
  have hy0 : h y = some (20, .inr (10, [.ref (ad 0), .ref (ad 1), .ref (ad 2), .int (iv 3), .int (iv 4), .int (iv 5), .ref (ad 6), .ref (ad 7), .ref (ad 8), .ref (ad 9), .ref (ad 10), .ref (ad 11), .int (iv 12), .ref (ad 13), .ref (ad 14), .ref (ad 15), .ref (ad 16), .ref (ad 17), .ref (ad 18), .ref (ad 19), .int (iv 20), .ref (ad 21), .ref (ad 22), .ref (ad 23), .ref (ad 24), .ref (ad 25), .ref (ad 26), .ref (ad 27), .ref (ad 28), .int (iv 29), .ref (ad 30), .ref (ad 31), .int (iv 32), .int (iv 33), .int (iv 34), .int (iv 35), .long tl, .int (iv 37), .int (iv 38), .int (iv 39), .int (iv 40), .ref (ad 41), .ref (ad 42), .int (iv 43)])) := hMO.1
  have ha41 : h (ad 41) = some (71, .inl (.int, 16, .inl (fv 41))) := (hMO.2.2 41 (by decide)).1
  obtain ⟨hiv43, hod, hOo⟩ := id hO
  intro kk9
  induction kk9 with
  | zero => intros; omega
  | succ kk9 ih =>
    intro i hi hj hmu H locs w ls hl
    refine lv_iload_n hx hb d_p15m24_2 rfl (lv_at hl 0 rfl) ?_
    refine lv_aload_n hx hb d_p15m24_3 rfl (lv_at hl 1 rfl) ?_
    refine pd_get X w hy0 rfl 43 (by decide) mT_1182 rfl rfl d_p15m24_4 ?_
    refine pd_top (v' := .int (nI od.length)) (congrArg Value.int hiv43) ?_
    refine pd_jge (tgt := 28) hx hb d_p15m24_7 (by decide) (by omega) (by omega) (fun q1 => ?_) (fun q1 => ?_)
    · -- taken: 28
      refine lv_iconst (v := nI 0) hx hb d_p15m24_28 (by decide) ?_
      refine W.eq (g2 := F0 m 29 ls [.int (pd_b false)]) rfl ?_
      exact pd_zret (v := false) X w ⟨(decide_eq_false (fun z => by obtain ⟨j9, hj9, e9⟩ := tx_mem_get z; exact hj j9 (by omega) e9)).symm, rfl⟩ (by decide) (by decide) d_p15m24_29
    · -- not taken: 10
      refine lv_aload_n hx hb d_p15m24_10 rfl (lv_at hl 1 rfl) ?_
      refine pd_get X w hy0 rfl 41 (by decide) mT_1180 rfl rfl d_p15m24_11 ?_
      refine lv_iload_n hx hb d_p15m24_14 rfl (lv_at hl 0 rfl) ?_
      refine pd_iald X w ha41 (by omega) (by omega) d_p15m24_15 ?_
      refine pd_top (v' := .int (nI (od.getD i 0))) (congrArg Value.int (hOo i (by omega)).1) ?_
      have hol := (hOo i (by omega)).2
      refine lv_iload_n hx hb d_p15m24_16 rfl (lv_at hl 2 rfl) ?_
      refine pd_jne (tgt := 22) hx hb d_p15m24_17 (by decide) (by omega) (by omega) (fun q2 => ?_) (fun q2 => ?_)
      · -- taken: 22
        refine pd_iinc (k := 0) (d := 1) (lv' := [(2, .int (nI (i + 1))), (0, .ref y), (1, .int (nI q9))]) hx hb d_p15m24_22 (by decide) hl rfl (by decide) rfl (fun ls hl => ?_)
        refine lv_goto (tgt := 2) hx hb d_p15m24_25 (by decide) ?_
        exact ih (i + 1) (by omega) (fun t ht => by by_cases e9 : t = i; subst e9; exact q2; exact hj t (by omega)) (by omega) _ _ w ls (lv_sub hl [0, 1, 2] rfl)
      · -- not taken: 20
        refine lv_iconst (v := nI 1) hx hb d_p15m24_20 (by decide) ?_
        refine W.eq (g2 := F0 m 21 ls [.int (pd_b true)]) rfl ?_
        exact pd_zret (v := true) X w ⟨(decide_eq_true (by have z := tx_get_mem (js := od) (i := i) (by omega); rwa [q2] at z)).symm, rfl⟩ (by decide) (by decide) d_p15m24_21
set_option maxHeartbeats 4000000 in
set_option maxRecDepth 100000 in
theorem c_Mod_isOrdered (l : Launch) (G : pd_G) (h : pd_H) {y : Nat} {ad : Nat → Nat} {fv : Nat → Nat → Int32} {iv : Nat → Int32} {tl : Int64} {od : List Nat} {q9 : Nat} (hMO : pd_MO G h y ad fv iv tl) (hO : gm_O fv iv od) (hq9 : q9 < 14) : pd_M l y_Mod_isOrdered prog_15_method_24_code 3 (some .boolean) rm_Mod_isOrdered G h [.ref y, .int (nI q9)] pd_vb (fun r h1 => r = decide (q9 ∈ od) ∧ h = h1) := by
  refine pd_M.of (by decide) (Nat.le_of_ble_eq_true rfl) ?_
  intro p e s m below meth c X hmn w ls hl
  have hx := X.1
  have hb := X.2.1
  have hl : lv_has ls 3 [(0, .ref y), (1, .int (nI q9))] := hl
  have hz_y := hMO.2.1
  have hy0 : h y = some (20, .inr (10, [.ref (ad 0), .ref (ad 1), .ref (ad 2), .int (iv 3), .int (iv 4), .int (iv 5), .ref (ad 6), .ref (ad 7), .ref (ad 8), .ref (ad 9), .ref (ad 10), .ref (ad 11), .int (iv 12), .ref (ad 13), .ref (ad 14), .ref (ad 15), .ref (ad 16), .ref (ad 17), .ref (ad 18), .ref (ad 19), .int (iv 20), .ref (ad 21), .ref (ad 22), .ref (ad 23), .ref (ad 24), .ref (ad 25), .ref (ad 26), .ref (ad 27), .ref (ad 28), .int (iv 29), .ref (ad 30), .ref (ad 31), .int (iv 32), .int (iv 33), .int (iv 34), .int (iv 35), .long tl, .int (iv 37), .int (iv 38), .int (iv 39), .int (iv 40), .ref (ad 41), .ref (ad 42), .int (iv 43)])) := hMO.1
  have ha41 : h (ad 41) = some (71, .inl (.int, 16, .inl (fv 41))) := (hMO.2.2 41 (by decide)).1
  obtain ⟨hiv43, hod, hOo⟩ := id hO
  refine lv_iconst (v := nI 0) hx hb d_p15m24_0 (by decide) ?_
  refine lv_istore_n (lv' := [(2, .int (nI 0)), (0, .ref y), (1, .int (nI q9))]) hx hb d_p15m24_1 rfl hl (by decide) rfl (fun ls hl => ?_)
  exact lp_Mod_isOrdered_2 l G h hMO hO hq9 X hmn (od.length + 1) 0 (by omega) (fun t ht => absurd ht (Nat.not_lt_zero t)) (by omega) _ _ w ls (lv_sub hl [0, 1, 2] rfl)
