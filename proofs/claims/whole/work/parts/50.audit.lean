theorem pd_fu_id {α : Type} {f : Nat → α} {n : Nat} {x : α} (h : f n = x) : pd_fu f n x = f := by
  funext j
  by_cases z : j = n
  · rw [z, pd_fu_s, h]
  · rw [pd_fu_n z]
/-- how many letters before the first octet 0 -/
def gm_sdn (wd : Int64) : Nat → Nat → Nat
  | 0, k => k
  | f + 1, k => if gm_oc wd k = 0 then k else gm_sdn wd f (k + 1)
theorem gm_sdn_s {wd : Int64} {k : Nat} (h : k < 8) (h0 : ¬ gm_oc wd k = 0) : gm_sdn wd (8 - k) k = gm_sdn wd (8 - (k + 1)) (k + 1) := by
  rw [show 8 - k = (8 - (k + 1)) + 1 by omega, gm_sdn, if_neg h0]
theorem gm_sdn_e {wd : Int64} {k n : Nat} (h0 : gm_oc wd k = 0) : gm_sdn wd n k = k := by
  cases n with
  | zero => rfl
  | succ n => rw [gm_sdn, if_pos h0]
def gm_sd (wd : Int64) : List Nat := (List.range (gm_sdn wd 8 0)).map (gm_oc wd)
theorem gm_sd_s {ws : List Nat} {wd : Int64} {i : Nat} : ws ++ (List.range (i + 1)).map (gm_oc wd) = (ws ++ (List.range i).map (gm_oc wd)) ++ [gm_oc wd i] := by
  rw [List.range_succ, List.map_append, List.append_assoc]
  rfl
theorem gm_tk_s {ws cs : List Nat} {i : Nat} (h : i < cs.length) : ws ++ cs.take (i + 1) = (ws ++ cs.take i) ++ [cs.getD i 0] := by
  rw [List.append_assoc, List.take_add_one, List.getElem?_eq_getElem h, List.getD_eq_getElem?_getD, List.getElem?_eq_getElem h]
  rfl
theorem gm_sd_0 : gm_sd 31093567915781749 = [117, 110, 107, 110, 111, 119, 110] := by decide +kernel
theorem gm_sd_1 : gm_sd 1684957547 = [107, 105, 110, 100] := by decide +kernel
theorem gm_sd_2 : gm_sd 7306074899287797606 = [102, 111, 114, 98, 105, 100, 100, 101] := by decide +kernel
theorem gm_sd_3 : gm_sd 110386723317092 = [100, 101, 110, 105, 101, 100] := by decide +kernel
theorem gm_sd_4 : gm_sd 139274578035 = [115, 104, 105, 109, 32] := by decide +kernel
theorem gm_sd_5 : gm_sd 2124655 = [111, 107, 32] := by decide +kernel
theorem d_p15m42_0 : decode prog_15_method_42_code 0 = .ok (.iconst 0, 1) := by decide +kernel
theorem d_p15m42_1 : decode prog_15_method_42_code 1 = .ok (.istore_n 3, 1) := by decide +kernel
theorem d_p15m42_2 : decode prog_15_method_42_code 2 = .ok (.iload_n 3, 1) := by decide +kernel
theorem d_p15m42_3 : decode prog_15_method_42_code 3 = .ok (.bipush 8, 2) := by decide +kernel
theorem d_p15m42_5 : decode prog_15_method_42_code 5 = .ok (.if_icmp .ge 39, 3) := by decide +kernel
theorem d_p15m42_8 : decode prog_15_method_42_code 8 = .ok (.lload_n 1, 1) := by decide +kernel
theorem d_p15m42_9 : decode prog_15_method_42_code 9 = .ok (.bipush 8, 2) := by decide +kernel
theorem d_p15m42_11 : decode prog_15_method_42_code 11 = .ok (.iload_n 3, 1) := by decide +kernel
theorem d_p15m42_12 : decode prog_15_method_42_code 12 = .ok (.imul, 1) := by decide +kernel
theorem d_p15m42_13 : decode prog_15_method_42_code 13 = .ok (.lshr, 1) := by decide +kernel
theorem d_p15m42_14 : decode prog_15_method_42_code 14 = .ok (.ldc2_w 107, 3) := by decide +kernel
theorem d_p15m42_17 : decode prog_15_method_42_code 17 = .ok (.land, 1) := by decide +kernel
theorem d_p15m42_18 : decode prog_15_method_42_code 18 = .ok (.lconst 0, 1) := by decide +kernel
theorem d_p15m42_19 : decode prog_15_method_42_code 19 = .ok (.lcmp, 1) := by decide +kernel
theorem d_p15m42_20 : decode prog_15_method_42_code 20 = .ok (.ifCond .eq 24, 3) := by decide +kernel
theorem d_p15m42_23 : decode prog_15_method_42_code 23 = .ok (.aload_n 0, 1) := by decide +kernel
theorem d_p15m42_24 : decode prog_15_method_42_code 24 = .ok (.lload_n 1, 1) := by decide +kernel
theorem d_p15m42_25 : decode prog_15_method_42_code 25 = .ok (.bipush 8, 2) := by decide +kernel
theorem d_p15m42_27 : decode prog_15_method_42_code 27 = .ok (.iload_n 3, 1) := by decide +kernel
theorem d_p15m42_28 : decode prog_15_method_42_code 28 = .ok (.imul, 1) := by decide +kernel
theorem d_p15m42_29 : decode prog_15_method_42_code 29 = .ok (.lshr, 1) := by decide +kernel
theorem d_p15m42_30 : decode prog_15_method_42_code 30 = .ok (.ldc2_w 107, 3) := by decide +kernel
theorem d_p15m42_33 : decode prog_15_method_42_code 33 = .ok (.land, 1) := by decide +kernel
theorem d_p15m42_34 : decode prog_15_method_42_code 34 = .ok (.l2i, 1) := by decide +kernel
theorem d_p15m42_35 : decode prog_15_method_42_code 35 = .ok (.invokevirtual 301, 3) := by decide +kernel
theorem d_p15m42_38 : decode prog_15_method_42_code 38 = .ok (.iinc 3 1, 3) := by decide +kernel
theorem d_p15m42_41 : decode prog_15_method_42_code 41 = .ok (.goto (-39), 3) := by decide +kernel
theorem d_p15m42_44 : decode prog_15_method_42_code 44 = .ok (.return_, 1) := by decide +kernel
abbrev y_Mod_said : MethodName := ⟨"PolicyDeskModel", "said", "(J)V"⟩
theorem ok_Mod_said : pd_ok y_Mod_said prog_15_method_42_code 4 none 1 := ⟨mT_1445, mT_21, by decide, by decide +kernel⟩
abbrev rm_Mod_said : Room := { frames := 1, cells := 0, slots := 0, locals := 22 }
set_option maxHeartbeats 4000000 in
set_option maxRecDepth 100000 in
theorem lp_Mod_said_2 (l : Launch) (G : pd_G) (h : pd_H) {y : Nat} {ad : Nat → Nat} {fv : Nat → Nat → Int32} {iv : Nat → Int32} {tl : Int64} {an : Nat} {ws : List Nat} {f0 : Nat → Int32} {wd : Int64} (hMO : pd_MO G h y ad fv iv tl) (hiv32 : iv 32 = nI an) (han : an < 1000) (hiv35 : iv 35 = nI ws.length) (hWr : gm_Wr (fv 30) (an % 12) ws f0) (hl80 : ws.length ≤ 80) {p : Program} {e : Env} {s : State} {m : MethodId} {below : List Frame} {meth : Method} {c : Code} (X : pd_B p s m [.ref y, .long wd].toArray meth c G y_Mod_said.cls prog_15_method_42_code 4 none) (hmn : meth.name = y_Mod_said.name) :
    ∀ (kk9 : Nat) (k9 : Nat) (f9 : Nat → Int32) (hh : pd_H), (k9 ≤ 8) → (gm_sdn wd (8 - k9) k9 = gm_sdn wd 8 0) → (pd_kx [20, 60] h hh) → (pd_MO G hh y ad (pd_fu fv 30 f9) (pd_fu iv 35 (nI (ws ++ (List.range k9).map (gm_oc wd)).length)) tl) → (gm_Wr f9 (an % 12) (ws ++ (List.range k9).map (gm_oc wd)) f0) → 8 - k9 < kk9 → ∀ (H : Heap) (locs : List Loc), pd_w G s H locs hh → ∀ ls : Array Slot, lv_has ls 4 [(3, .int (nI k9)), (0, .ref y), (1, .long wd)] → W p l e rm_Mod_said s m [.ref y, .long wd].toArray below meth c H locs 0 0 (MQ below (pd_Qv G (fun h1 => pd_kx [20, 60] h h1 ∧ ∃ f, pd_MO G h1 y ad (pd_fu fv 30 f) (pd_fu iv 35 (nI (ws ++ gm_sd wd).length)) tl ∧ gm_Wr f (an % 12) (ws ++ gm_sd wd) f0)) [.ref y, .long wd].toArray s rm_Mod_said.cells rm_Mod_said.slots (fun q => G.2.1 ≤ q)) (F0 m 2 ls []) := by
  have hx := X.1
  have hb := X.2.1
  have hz_y := hMO.2.1
  have hy0 : h y = some (20, .inr (10, [.ref (ad 0), .ref (ad 1), .ref (ad 2), .int (iv 3), .int (iv 4), .int (iv 5), .ref (ad 6), .ref (ad 7), .ref (ad 8), .ref (ad 9), .ref (ad 10), .ref (ad 11), .int (iv 12), .ref (ad 13), .ref (ad 14), .ref (ad 15), .ref (ad 16), .ref (ad 17), .ref (ad 18), .ref (ad 19), .int (iv 20), .ref (ad 21), .ref (ad 22), .ref (ad 23), .ref (ad 24), .ref (ad 25), .ref (ad 26), .ref (ad 27), .ref (ad 28), .int (iv 29), .ref (ad 30), .ref (ad 31), .int (iv 32), .int (iv 33), .int (iv 34), .int (iv 35), .long tl, .int (iv 37), .int (iv 38), .int (iv 39), .int (iv 40), .ref (ad 41), .ref (ad 42), .int (iv 43)])) := hMO.1
  have ha30 : h (ad 30) = some (60, .inl (.int, 1152, .inl (fv 30))) := (hMO.2.2 30 (by decide)).1
  intro kk9
  induction kk9 with
  | zero => intros; omega
  | succ kk9 ih =>
    intro k9 f9 hh hk9 hv hk2 hMO2 hW9 hmu H locs w ls hl
    have hz_y := hMO2.2.1
    have hy2 : hh y = some (20, .inr (10, [.ref (ad 0), .ref (ad 1), .ref (ad 2), .int (iv 3), .int (iv 4), .int (iv 5), .ref (ad 6), .ref (ad 7), .ref (ad 8), .ref (ad 9), .ref (ad 10), .ref (ad 11), .int (iv 12), .ref (ad 13), .ref (ad 14), .ref (ad 15), .ref (ad 16), .ref (ad 17), .ref (ad 18), .ref (ad 19), .int (iv 20), .ref (ad 21), .ref (ad 22), .ref (ad 23), .ref (ad 24), .ref (ad 25), .ref (ad 26), .ref (ad 27), .ref (ad 28), .int (iv 29), .ref (ad 30), .ref (ad 31), .int (iv 32), .int (iv 33), .int (iv 34), .int (nI ((ws ++ (List.range k9).map (gm_oc wd)).length)), .long tl, .int (iv 37), .int (iv 38), .int (iv 39), .int (iv 40), .ref (ad 41), .ref (ad 42), .int (iv 43)])) := hMO2.1
    have ha30 : hh (ad 30) = some (60, .inl (.int, 1152, .inl (f9))) := (hMO2.2.2 30 (by decide)).1
    refine lv_iload_n hx hb d_p15m42_2 rfl (lv_at hl 0 rfl) ?_
    refine lv_bipush (v := nI 8) hx hb d_p15m42_3 (by decide) ?_
    refine pd_jge (tgt := 44) hx hb d_p15m42_5 (by decide) (by omega) (by omega) (fun q1 => ?_) (fun q1 => ?_)
    · -- taken: 44
      have hN : gm_sdn wd 8 0 = k9 := by rw [← hv, show 8 - k9 = 0 by omega]; rfl
      exact pd_vret X w ⟨hk2, _, (by unfold gm_sd; rw [hN]; exact hMO2), (by unfold gm_sd; rw [hN]; exact hW9)⟩ (by decide) (by decide) d_p15m42_44
    · -- not taken: 8
      refine lv_lload_n hx hb d_p15m42_8 rfl (lv_at hl 2 rfl) ?_
      refine lv_bipush (v := nI 8) hx hb d_p15m42_9 (by decide) ?_
      refine lv_iload_n hx hb d_p15m42_11 rfl (lv_at hl 0 rfl) ?_
      refine pd_imul hx hb d_p15m42_12 ?_
      refine lv_lshr hx hb d_p15m42_13 rfl ?_
      refine lv_ldc2 (v := 255) hx hb X.2.2.2.2.1 (X.2.2.2.2.2.1 _ mT_1137) d_p15m42_14 ?_
      refine lv_land hx hb d_p15m42_17 ?_
      refine lv_lconst (v := 0) hx hb d_p15m42_18 (by decide) ?_
      refine pd_lcmp hx hb d_p15m42_19 ?_
      refine lv_if_eq (tgt := 44) hx hb d_p15m42_20 (by decide) (fun q2 => ?_) (fun q2 => ?_)
      · -- taken: 44
        have hN : gm_sdn wd 8 0 = k9 := by rw [← hv, gm_sdn_e ((gm_o2 _).mp (pd_lc0.mp q2))]
        exact pd_vret X w ⟨hk2, _, (by unfold gm_sd; rw [hN]; exact hMO2), (by unfold gm_sd; rw [hN]; exact hW9)⟩ (by decide) (by decide) d_p15m42_44
      · -- not taken: 23
        refine lv_aload_n hx hb d_p15m42_23 rfl (lv_at hl 1 rfl) ?_
        refine lv_lload_n hx hb d_p15m42_24 rfl (lv_at hl 2 rfl) ?_
        refine lv_bipush (v := nI 8) hx hb d_p15m42_25 (by decide) ?_
        refine lv_iload_n hx hb d_p15m42_27 rfl (lv_at hl 0 rfl) ?_
        refine pd_imul hx hb d_p15m42_28 ?_
        refine lv_lshr hx hb d_p15m42_29 rfl ?_
        refine lv_ldc2 (v := 255) hx hb X.2.2.2.2.1 (X.2.2.2.2.2.1 _ mT_1137) d_p15m42_30 ?_
        refine lv_land hx hb d_p15m42_33 ?_
        refine lv_l2i hx hb d_p15m42_34 rfl ?_
        refine pd_top (v' := .int (nI (gm_oc wd k9))) (congrArg Value.int (gm_oct _)) ?_
        refine pd_cVv (a := y) (As := [.int (nI (gm_oc wd k9))]) (rest := []) X w hy2 rfl (c_Mod_letter l G hh (an := an) (f0 := f0) (ws := ws ++ (List.range k9).map (gm_oc wd)) (ad := ad) (fv := pd_fu fv 30 f9) (iv := pd_fu iv 35 (nI (ws ++ (List.range k9).map (gm_oc wd)).length)) (tl := tl) hMO2 (by assumption) (by omega) (by first | rfl | assumption) (by assumption) (by (try simp only [List.length_append, List.length_cons, List.length_nil, List.length_map, List.length_range, List.length_take]); omega)) ok_Mod_letter ⟨mT_1439, sT_47⟩ mT_1437 ⟨by decide, by decide⟩ rfl hl.1 rfl (Nat.le_of_ble_eq_true rfl) d_p15m42_35 ⟨by decide, by decide⟩ (fun h4 H locs hp5 w => ?_)
        refine W.widen (k := 0) (n := 0) (by decide) (by decide) ?_
        obtain ⟨k6, f7, f8, f9⟩ := hp5
        have mo10 : pd_MO G h4 y ad (pd_fu fv 30 f7) (pd_fu iv 35 (nI ((ws ++ (List.range k9).map (gm_oc wd) ++ [gm_oc wd k9]).length))) tl := pd_MO.ext f8 (fun j9 hj9 => by by_cases e930 : j9 = 30; subst e930; rfl; simp only [pd_fu, if_neg e930]) rfl
        have hy11 : h4 y = some (20, .inr (10, [.ref (ad 0), .ref (ad 1), .ref (ad 2), .int (iv 3), .int (iv 4), .int (iv 5), .ref (ad 6), .ref (ad 7), .ref (ad 8), .ref (ad 9), .ref (ad 10), .ref (ad 11), .int (iv 12), .ref (ad 13), .ref (ad 14), .ref (ad 15), .ref (ad 16), .ref (ad 17), .ref (ad 18), .ref (ad 19), .int (iv 20), .ref (ad 21), .ref (ad 22), .ref (ad 23), .ref (ad 24), .ref (ad 25), .ref (ad 26), .ref (ad 27), .ref (ad 28), .int (iv 29), .ref (ad 30), .ref (ad 31), .int (iv 32), .int (iv 33), .int (iv 34), .int (nI ((ws ++ (List.range k9).map (gm_oc wd) ++ [gm_oc wd k9]).length)), .long tl, .int (iv 37), .int (iv 38), .int (iv 39), .int (iv 40), .ref (ad 41), .ref (ad 42), .int (iv 43)])) := mo10.1
        have ha12 : h4 (ad 30) = some (60, .inl (.int, 1152, .inl (f7))) := (mo10.2.2 30 (by decide)).1
        refine pd_iinc (k := 0) (d := 1) (lv' := [(3, .int (nI (k9 + 1))), (0, .ref y), (1, .long wd)]) hx hb d_p15m42_38 (by decide) hl rfl (by decide) rfl (fun ls hl => ?_)
        refine lv_goto (tgt := 2) hx hb d_p15m42_41 (by decide) ?_
        exact ih (k9 + 1) f7 h4 (by omega) (by rw [← hv, gm_sdn_s (k := k9) (by omega) (fun z => q2 (pd_lc0.mpr ((gm_o2 _).mpr z)))]) (hk2.tr (k6)) (by rw [gm_sd_s]; exact mo10) (by rw [gm_sd_s]; exact f9) (by omega) _ _ w ls (lv_sub hl [0, 1, 2] rfl)
set_option maxHeartbeats 4000000 in
set_option maxRecDepth 100000 in
theorem c_Mod_said (l : Launch) (G : pd_G) (h : pd_H) {y : Nat} {ad : Nat → Nat} {fv : Nat → Nat → Int32} {iv : Nat → Int32} {tl : Int64} {an : Nat} {ws : List Nat} {f0 : Nat → Int32} {wd : Int64} (hMO : pd_MO G h y ad fv iv tl) (hiv32 : iv 32 = nI an) (han : an < 1000) (hiv35 : iv 35 = nI ws.length) (hWr : gm_Wr (fv 30) (an % 12) ws f0) (hl80 : ws.length ≤ 80) : pd_Mv l y_Mod_said prog_15_method_42_code 4 rm_Mod_said G h [.ref y, .long wd] (fun h1 => pd_kx [20, 60] h h1 ∧ ∃ f, pd_MO G h1 y ad (pd_fu fv 30 f) (pd_fu iv 35 (nI (ws ++ gm_sd wd).length)) tl ∧ gm_Wr f (an % 12) (ws ++ gm_sd wd) f0) := by
  refine pd_Mv.of (by decide) (Nat.le_of_ble_eq_true rfl) ?_
  intro p e s m below meth c X hmn w ls hl
  have hx := X.1
  have hb := X.2.1
  have hl : lv_has ls 4 [(0, .ref y), (1, .long wd)] := hl
  have hz_y := hMO.2.1
  have hy0 : h y = some (20, .inr (10, [.ref (ad 0), .ref (ad 1), .ref (ad 2), .int (iv 3), .int (iv 4), .int (iv 5), .ref (ad 6), .ref (ad 7), .ref (ad 8), .ref (ad 9), .ref (ad 10), .ref (ad 11), .int (iv 12), .ref (ad 13), .ref (ad 14), .ref (ad 15), .ref (ad 16), .ref (ad 17), .ref (ad 18), .ref (ad 19), .int (iv 20), .ref (ad 21), .ref (ad 22), .ref (ad 23), .ref (ad 24), .ref (ad 25), .ref (ad 26), .ref (ad 27), .ref (ad 28), .int (iv 29), .ref (ad 30), .ref (ad 31), .int (iv 32), .int (iv 33), .int (iv 34), .int (iv 35), .long tl, .int (iv 37), .int (iv 38), .int (iv 39), .int (iv 40), .ref (ad 41), .ref (ad 42), .int (iv 43)])) := hMO.1
  have ha30 : h (ad 30) = some (60, .inl (.int, 1152, .inl (fv 30))) := (hMO.2.2 30 (by decide)).1
  refine lv_iconst (v := nI 0) hx hb d_p15m42_0 (by decide) ?_
  refine lv_istore_n (lv' := [(3, .int (nI 0)), (0, .ref y), (1, .long wd)]) hx hb d_p15m42_1 rfl hl (by decide) rfl (fun ls hl => ?_)
  exact lp_Mod_said_2 l G h hMO hiv32 han hiv35 hWr hl80 X hmn (8 + 1) 0 (fv 30) h (by omega) (rfl) (pd_kx.rf) (by rw [pd_fu_id (f := fv) (n := 30) rfl, pd_fu_id (f := iv) (n := 35) (by rw [hiv35]; simp)]; exact hMO) (by rw [List.range_zero, List.map_nil, List.append_nil]; exact hWr) (by omega) _ _ w ls (lv_sub hl [0, 1, 2] rfl)
theorem gr_aok_5 : ¬ gr_aok (-5) := by
  intro h
  rcases h with h | h | h | h | ⟨n, hn, h⟩ | ⟨n, hn, h⟩
  · exact absurd h (by decide)
  · exact absurd h (by decide)
  · exact absurd h (by decide)
  · exact absurd h (by decide)
  · exact absurd (show (-5 : Int32) < 0 by decide) (by rw [h]; exact nI_pos (by omega))
  · exact absurd (show (-5 : Int32) < 0 by decide) (by rw [h]; exact nI_pos (by omega))
theorem gr_aok_3 : ¬ gr_aok (-3) := by
  intro h
  rcases h with h | h | h | h | ⟨n, hn, h⟩ | ⟨n, hn, h⟩
  · exact absurd h (by decide)
  · exact absurd h (by decide)
  · exact absurd h (by decide)
  · exact absurd h (by decide)
  · exact absurd (show (-3 : Int32) < 0 by decide) (by rw [h]; exact nI_pos (by omega))
  · exact absurd (show (-3 : Int32) < 0 by decide) (by rw [h]; exact nI_pos (by omega))
theorem gr_aok_d {a : Int32} (h : gr_aok a) (h7 : ¬ a = -7) (h6 : ¬ a = -6) (h4 : ¬ a = -4) (h2 : ¬ a = -2) : (∃ n, n < 1000 ∧ a = nI n) ∨ ∃ n, n < 24 ∧ a = nI (10000 + n) := by
  rcases h with h | h | h | h | h | h
  · exact absurd h h2
  · exact absurd h h4
  · exact absurd h h6
  · exact absurd h h7
  · exact Or.inl h
  · exact Or.inr h
theorem gr_ow_p {n : Nat} (hn : n < 1000) : gr_ow (nI n) = [111, 107, 32] := by
  unfold gr_ow
  rw [if_neg (fun z => nI_pos (n := n) (by omega) (by rw [z]; decide)), if_neg (fun z => nI_pos (n := n) (by omega) (by rw [z]; decide)), if_neg (fun z => nI_pos (n := n) (by omega) (by rw [z]; decide)), if_neg (fun z => nI_pos (n := n) (by omega) (by rw [z]; decide)), if_pos (nI_lt (by omega) (by decide))]
theorem gr_ow_s {n : Nat} (hn : n < 24) : gr_ow (nI (10000 + n)) = [115, 104, 105, 109, 32] := by
  unfold gr_ow
  rw [if_neg (fun z => nI_pos (n := 10000 + n) (by omega) (by rw [z]; decide)), if_neg (fun z => nI_pos (n := 10000 + n) (by omega) (by rw [z]; decide)), if_neg (fun z => nI_pos (n := 10000 + n) (by omega) (by rw [z]; decide)), if_neg (fun z => nI_pos (n := 10000 + n) (by omega) (by rw [z]; decide)), if_neg (nI_nlt (by omega) (by omega))]
theorem gm_A_w {fv : Nat → Nat → Int32} {f g : Nat → Int32} {T : Nat → List Nat} {j : Nat} {ws : List Nat} (hA : gm_A fv T) (hj : j < 12) (hW : gm_Wr f j ws (fv 30)) (hg : g = upd (fv 31) j (nI ws.length)) (hl : ws.length ≤ 96) : gm_A (pd_fu (pd_fu fv 30 f) 31 g) (pd_fu T j ws) := by
  intro i hi
  subst hg
  show upd (fv 31) j (nI ws.length) i = _ ∧ _ ∧ ∀ x, _ → f (96 * i + x) = _
  by_cases e : i = j
  · subst e
    rw [pk_us, pd_fu_s]
    exact ⟨rfl, hl, hW.1⟩
  · rw [pk_un e, pd_fu_n e]
    refine ⟨(hA i hi).1, (hA i hi).2.1, fun x hx => ?_⟩
    have := (hA i hi).2.1
    rw [hW.2 _ (by omega)]
    exact (hA i hi).2.2 x hx
theorem gm_od_len (a : Int32) : (gr_od a).length ≤ 3 := by
  unfold gr_od
  split
  · split
    · decide
    · exact gr_dig_len.2
  · exact gr_dig_len.2
theorem d_p15m43_0 : decode prog_15_method_43_code 0 = .ok (.aload_n 0, 1) := by decide +kernel
theorem d_p15m43_1 : decode prog_15_method_43_code 1 = .ok (.iconst 0, 1) := by decide +kernel
theorem d_p15m43_2 : decode prog_15_method_43_code 2 = .ok (.putfield 298, 3) := by decide +kernel
theorem d_p15m43_5 : decode prog_15_method_43_code 5 = .ok (.aload_n 0, 1) := by decide +kernel
theorem d_p15m43_6 : decode prog_15_method_43_code 6 = .ok (.aload_n 0, 1) := by decide +kernel
theorem d_p15m43_7 : decode prog_15_method_43_code 7 = .ok (.getfield 275, 3) := by decide +kernel
theorem d_p15m43_10 : decode prog_15_method_43_code 10 = .ok (.invokevirtual 304, 3) := by decide +kernel
theorem d_p15m43_13 : decode prog_15_method_43_code 13 = .ok (.aload_n 0, 1) := by decide +kernel
theorem d_p15m43_14 : decode prog_15_method_43_code 14 = .ok (.bipush 32, 2) := by decide +kernel
theorem d_p15m43_16 : decode prog_15_method_43_code 16 = .ok (.invokevirtual 301, 3) := by decide +kernel
theorem d_p15m43_19 : decode prog_15_method_43_code 19 = .ok (.iconst 0, 1) := by decide +kernel
theorem d_p15m43_20 : decode prog_15_method_43_code 20 = .ok (.istore_n 2, 1) := by decide +kernel
theorem d_p15m43_21 : decode prog_15_method_43_code 21 = .ok (.iload_n 2, 1) := by decide +kernel
theorem d_p15m43_22 : decode prog_15_method_43_code 22 = .ok (.aload_n 0, 1) := by decide +kernel
theorem d_p15m43_23 : decode prog_15_method_43_code 23 = .ok (.getfield 113, 3) := by decide +kernel
theorem d_p15m43_26 : decode prog_15_method_43_code 26 = .ok (.if_icmp .ge 19, 3) := by decide +kernel
theorem d_p15m43_29 : decode prog_15_method_43_code 29 = .ok (.aload_n 0, 1) := by decide +kernel
theorem d_p15m43_30 : decode prog_15_method_43_code 30 = .ok (.aload_n 0, 1) := by decide +kernel
theorem d_p15m43_31 : decode prog_15_method_43_code 31 = .ok (.getfield 7, 3) := by decide +kernel
theorem d_p15m43_34 : decode prog_15_method_43_code 34 = .ok (.iload_n 2, 1) := by decide +kernel
theorem d_p15m43_35 : decode prog_15_method_43_code 35 = .ok (.iaload, 1) := by decide +kernel
theorem d_p15m43_36 : decode prog_15_method_43_code 36 = .ok (.invokevirtual 301, 3) := by decide +kernel
theorem d_p15m43_39 : decode prog_15_method_43_code 39 = .ok (.iinc 2 1, 3) := by decide +kernel
theorem d_p15m43_42 : decode prog_15_method_43_code 42 = .ok (.goto (-21), 3) := by decide +kernel
theorem d_p15m43_45 : decode prog_15_method_43_code 45 = .ok (.aload_n 0, 1) := by decide +kernel
theorem d_p15m43_46 : decode prog_15_method_43_code 46 = .ok (.bipush 32, 2) := by decide +kernel
theorem d_p15m43_48 : decode prog_15_method_43_code 48 = .ok (.invokevirtual 301, 3) := by decide +kernel
theorem d_p15m43_51 : decode prog_15_method_43_code 51 = .ok (.iload_n 1, 1) := by decide +kernel
theorem d_p15m43_52 : decode prog_15_method_43_code 52 = .ok (.tableswitch 86 (-7) (-2) #[76, 60, 86, 50, 86, 40], 40) := by decide +kernel
theorem d_p15m43_92 : decode prog_15_method_43_code 92 = .ok (.aload_n 0, 1) := by decide +kernel
theorem d_p15m43_93 : decode prog_15_method_43_code 93 = .ok (.ldc2_w 307, 3) := by decide +kernel
theorem d_p15m43_96 : decode prog_15_method_43_code 96 = .ok (.invokevirtual 309, 3) := by decide +kernel
theorem d_p15m43_99 : decode prog_15_method_43_code 99 = .ok (.goto 79, 3) := by decide +kernel
theorem d_p15m43_102 : decode prog_15_method_43_code 102 = .ok (.aload_n 0, 1) := by decide +kernel
theorem d_p15m43_103 : decode prog_15_method_43_code 103 = .ok (.ldc2_w 313, 3) := by decide +kernel
theorem d_p15m43_106 : decode prog_15_method_43_code 106 = .ok (.invokevirtual 309, 3) := by decide +kernel
theorem d_p15m43_109 : decode prog_15_method_43_code 109 = .ok (.goto 69, 3) := by decide +kernel
theorem d_p15m43_112 : decode prog_15_method_43_code 112 = .ok (.aload_n 0, 1) := by decide +kernel
theorem d_p15m43_113 : decode prog_15_method_43_code 113 = .ok (.ldc2_w 315, 3) := by decide +kernel
theorem d_p15m43_116 : decode prog_15_method_43_code 116 = .ok (.invokevirtual 309, 3) := by decide +kernel
theorem d_p15m43_119 : decode prog_15_method_43_code 119 = .ok (.aload_n 0, 1) := by decide +kernel
theorem d_p15m43_120 : decode prog_15_method_43_code 120 = .ok (.bipush 110, 2) := by decide +kernel
theorem d_p15m43_122 : decode prog_15_method_43_code 122 = .ok (.invokevirtual 301, 3) := by decide +kernel
theorem d_p15m43_125 : decode prog_15_method_43_code 125 = .ok (.goto 53, 3) := by decide +kernel
theorem d_p15m43_128 : decode prog_15_method_43_code 128 = .ok (.aload_n 0, 1) := by decide +kernel
theorem d_p15m43_129 : decode prog_15_method_43_code 129 = .ok (.ldc2_w 317, 3) := by decide +kernel
theorem d_p15m43_132 : decode prog_15_method_43_code 132 = .ok (.invokevirtual 309, 3) := by decide +kernel
theorem d_p15m43_135 : decode prog_15_method_43_code 135 = .ok (.goto 43, 3) := by decide +kernel
theorem d_p15m43_138 : decode prog_15_method_43_code 138 = .ok (.aload_n 0, 1) := by decide +kernel
theorem d_p15m43_139 : decode prog_15_method_43_code 139 = .ok (.iload_n 1, 1) := by decide +kernel
theorem d_p15m43_140 : decode prog_15_method_43_code 140 = .ok (.sipush 10000, 3) := by decide +kernel
theorem d_p15m43_143 : decode prog_15_method_43_code 143 = .ok (.if_icmp .lt 9, 3) := by decide +kernel
theorem d_p15m43_146 : decode prog_15_method_43_code 146 = .ok (.ldc2_w 319, 3) := by decide +kernel
theorem d_p15m43_149 : decode prog_15_method_43_code 149 = .ok (.goto 6, 3) := by decide +kernel
theorem d_p15m43_152 : decode prog_15_method_43_code 152 = .ok (.ldc2_w 321, 3) := by decide +kernel
theorem d_p15m43_155 : decode prog_15_method_43_code 155 = .ok (.invokevirtual 309, 3) := by decide +kernel
theorem d_p15m43_158 : decode prog_15_method_43_code 158 = .ok (.aload_n 0, 1) := by decide +kernel
theorem d_p15m43_159 : decode prog_15_method_43_code 159 = .ok (.iload_n 1, 1) := by decide +kernel
theorem d_p15m43_160 : decode prog_15_method_43_code 160 = .ok (.sipush 10000, 3) := by decide +kernel
theorem d_p15m43_163 : decode prog_15_method_43_code 163 = .ok (.if_icmp .lt 11, 3) := by decide +kernel
theorem d_p15m43_166 : decode prog_15_method_43_code 166 = .ok (.iload_n 1, 1) := by decide +kernel
theorem d_p15m43_167 : decode prog_15_method_43_code 167 = .ok (.sipush 10000, 3) := by decide +kernel
theorem d_p15m43_170 : decode prog_15_method_43_code 170 = .ok (.isub, 1) := by decide +kernel
theorem d_p15m43_171 : decode prog_15_method_43_code 171 = .ok (.goto 4, 3) := by decide +kernel
theorem d_p15m43_174 : decode prog_15_method_43_code 174 = .ok (.iload_n 1, 1) := by decide +kernel
theorem d_p15m43_175 : decode prog_15_method_43_code 175 = .ok (.invokevirtual 304, 3) := by decide +kernel
theorem d_p15m43_178 : decode prog_15_method_43_code 178 = .ok (.aload_n 0, 1) := by decide +kernel
theorem d_p15m43_179 : decode prog_15_method_43_code 179 = .ok (.getfield 90, 3) := by decide +kernel
theorem d_p15m43_182 : decode prog_15_method_43_code 182 = .ok (.aload_n 0, 1) := by decide +kernel
theorem d_p15m43_183 : decode prog_15_method_43_code 183 = .ok (.getfield 275, 3) := by decide +kernel
theorem d_p15m43_186 : decode prog_15_method_43_code 186 = .ok (.bipush 12, 2) := by decide +kernel
theorem d_p15m43_188 : decode prog_15_method_43_code 188 = .ok (.irem, 1) := by decide +kernel
theorem d_p15m43_189 : decode prog_15_method_43_code 189 = .ok (.aload_n 0, 1) := by decide +kernel
theorem d_p15m43_190 : decode prog_15_method_43_code 190 = .ok (.getfield 298, 3) := by decide +kernel
theorem d_p15m43_193 : decode prog_15_method_43_code 193 = .ok (.iastore, 1) := by decide +kernel
theorem d_p15m43_194 : decode prog_15_method_43_code 194 = .ok (.return_, 1) := by decide +kernel
abbrev y_Mod_write : MethodName := ⟨"PolicyDeskModel", "write", "(I)V"⟩
theorem ok_Mod_write : pd_ok y_Mod_write prog_15_method_43_code 3 none 1 := ⟨mT_1432, mT_21, by decide, by decide +kernel⟩
abbrev rm_Mod_write : Room := { frames := 2, cells := 0, slots := 0, locals := 45 }
set_option maxHeartbeats 4000000 in
set_option maxRecDepth 100000 in
theorem lp_Mod_write_21 (l : Launch) (G : pd_G) (h : pd_H) {y : Nat} {ad : Nat → Nat} {fv : Nat → Nat → Int32} {iv : Nat → Int32} {tl : Int64} {cs : List Nat} {an : Nat} {T : Nat → List Nat} {ans : Int32} (hMO : pd_MO G h y ad fv iv tl) (hL : gm_L fv iv cs) (hA : gm_A fv T) (hiv32 : iv 32 = nI an) (han : an < 1000) (hans : gr_aok ans) {p : Program} {e : Env} {s : State} {m : MethodId} {below : List Frame} {meth : Method} {c : Code} (X : pd_B p s m [.ref y, .int ans].toArray meth c G y_Mod_write.cls prog_15_method_43_code 3 none) (hmn : meth.name = y_Mod_write.name) :
    ∀ (kk9 : Nat) (k9 : Nat) (f9 : Nat → Int32) (hh : pd_H), (k9 ≤ cs.length) → (pd_kx [20, 60, 61] h hh) → (pd_MO G hh y ad (pd_fu fv 30 f9) (pd_fu iv 35 (nI (gr_dig an ++ [32] ++ cs.take k9).length)) tl) → (gm_Wr f9 (an % 12) (gr_dig an ++ [32] ++ cs.take k9) (fv 30)) → cs.length - k9 < kk9 → ∀ (H : Heap) (locs : List Loc), pd_w G s H locs hh → ∀ ls : Array Slot, lv_has ls 3 [(2, .int (nI k9)), (0, .ref y), (1, .int ans)] → W p l e rm_Mod_write s m [.ref y, .int ans].toArray below meth c H locs 0 0 (MQ below (pd_Qv G (fun h1 => pd_kx [20, 60, 61] h h1 ∧ ∃ f30 f31 v35, pd_MO G h1 y ad (pd_fu (pd_fu fv 30 f30) 31 f31) (pd_fu iv 35 v35) tl ∧ gm_A (pd_fu (pd_fu fv 30 f30) 31 f31) (pd_fu T (an % 12) (gr_atx an cs ans)))) [.ref y, .int ans].toArray s rm_Mod_write.cells rm_Mod_write.slots (fun q => G.2.1 ≤ q)) (F0 m 21 ls []) := by
  have hx := X.1
  have hb := X.2.1
  have hz_y := hMO.2.1
  have hy0 : h y = some (20, .inr (10, [.ref (ad 0), .ref (ad 1), .ref (ad 2), .int (iv 3), .int (iv 4), .int (iv 5), .ref (ad 6), .ref (ad 7), .ref (ad 8), .ref (ad 9), .ref (ad 10), .ref (ad 11), .int (iv 12), .ref (ad 13), .ref (ad 14), .ref (ad 15), .ref (ad 16), .ref (ad 17), .ref (ad 18), .ref (ad 19), .int (iv 20), .ref (ad 21), .ref (ad 22), .ref (ad 23), .ref (ad 24), .ref (ad 25), .ref (ad 26), .ref (ad 27), .ref (ad 28), .int (iv 29), .ref (ad 30), .ref (ad 31), .int (iv 32), .int (iv 33), .int (iv 34), .int (iv 35), .long tl, .int (iv 37), .int (iv 38), .int (iv 39), .int (iv 40), .ref (ad 41), .ref (ad 42), .int (iv 43)])) := hMO.1
  have ha0 : h (ad 0) = some (30, .inl (.int, 60, .inl (fv 0))) := (hMO.2.2 0 (by decide)).1
  have ha30 : h (ad 30) = some (60, .inl (.int, 1152, .inl (fv 30))) := (hMO.2.2 30 (by decide)).1
  have ha31 : h (ad 31) = some (61, .inl (.int, 12, .inl (fv 31))) := (hMO.2.2 31 (by decide)).1
  obtain ⟨hiv3, hln, hl60, hlc⟩ := id hL
  have hd0 := gr_dig_len (x := an)
  have hsl0 : (gm_sd 31093567915781749).length = 7 := by rw [gm_sd_0]; rfl
  have hsl1 : (gm_sd 1684957547).length = 4 := by rw [gm_sd_1]; rfl
  have hsl2 : (gm_sd 7306074899287797606).length = 8 := by rw [gm_sd_2]; rfl
  have hsl3 : (gm_sd 110386723317092).length = 6 := by rw [gm_sd_3]; rfl
  have hsl4 : (gm_sd 139274578035).length = 5 := by rw [gm_sd_4]; rfl
  have hsl5 : (gm_sd 2124655).length = 3 := by rw [gm_sd_5]; rfl
  intro kk9
  induction kk9 with
  | zero => intros; omega
  | succ kk9 ih =>
    intro k9 f9 hh hk9 hk2 hMO2 hW9 hmu H locs w ls hl
    have hz_y := hMO2.2.1
    have hy2 : hh y = some (20, .inr (10, [.ref (ad 0), .ref (ad 1), .ref (ad 2), .int (iv 3), .int (iv 4), .int (iv 5), .ref (ad 6), .ref (ad 7), .ref (ad 8), .ref (ad 9), .ref (ad 10), .ref (ad 11), .int (iv 12), .ref (ad 13), .ref (ad 14), .ref (ad 15), .ref (ad 16), .ref (ad 17), .ref (ad 18), .ref (ad 19), .int (iv 20), .ref (ad 21), .ref (ad 22), .ref (ad 23), .ref (ad 24), .ref (ad 25), .ref (ad 26), .ref (ad 27), .ref (ad 28), .int (iv 29), .ref (ad 30), .ref (ad 31), .int (iv 32), .int (iv 33), .int (iv 34), .int (nI ((gr_dig an ++ [32] ++ cs.take k9).length)), .long tl, .int (iv 37), .int (iv 38), .int (iv 39), .int (iv 40), .ref (ad 41), .ref (ad 42), .int (iv 43)])) := hMO2.1
    have ha0 : hh (ad 0) = some (30, .inl (.int, 60, .inl (fv 0))) := (hMO2.2.2 0 (by decide)).1
    have ha30 : hh (ad 30) = some (60, .inl (.int, 1152, .inl (f9))) := (hMO2.2.2 30 (by decide)).1
    have ha31 : hh (ad 31) = some (61, .inl (.int, 12, .inl (fv 31))) := (hMO2.2.2 31 (by decide)).1
    refine lv_iload_n hx hb d_p15m43_21 rfl (lv_at hl 0 rfl) ?_
    refine lv_aload_n hx hb d_p15m43_22 rfl (lv_at hl 1 rfl) ?_
    refine pd_get X w hy2 rfl 3 (by decide) mT_1142 rfl rfl d_p15m43_23 ?_
    refine pd_top (v' := .int (nI cs.length)) (congrArg Value.int hiv3) ?_
    refine pd_jge (tgt := 45) hx hb d_p15m43_26 (by decide) (by omega) (by omega) (fun q1 => ?_) (fun q1 => ?_)
    · -- taken: 45
      have hk9e : k9 = cs.length := by omega
      subst hk9e
      refine lv_aload_n hx hb d_p15m43_45 rfl (lv_at hl 1 rfl) ?_
      refine lv_bipush (v := nI 32) hx hb d_p15m43_46 (by decide) ?_
      refine pd_cVv (a := y) (As := [.int (nI 32)]) (rest := []) X w hy2 rfl (c_Mod_letter l G hh (an := an) (f0 := fv 30) (ws := gr_dig an ++ [32] ++ cs.take cs.length) (ad := ad) (fv := pd_fu fv 30 f9) (iv := pd_fu iv 35 (nI (gr_dig an ++ [32] ++ cs.take cs.length).length)) (tl := tl) hMO2 (by assumption) (by omega) (by first | rfl | assumption) (by assumption) (by (try simp only [List.length_append, List.length_cons, List.length_nil, List.length_map, List.length_range, List.length_take]); omega)) ok_Mod_letter ⟨mT_1439, sT_47⟩ mT_1437 ⟨by decide, by decide⟩ rfl hl.1 rfl (Nat.le_of_ble_eq_true rfl) d_p15m43_48 ⟨by decide, by decide⟩ (fun h3 H locs hp4 w => ?_)
      refine W.widen (k := 0) (n := 0) (by decide) (by decide) ?_
      obtain ⟨k5, f6, f7, f8⟩ := hp4
      have f9 := k5 _ _ ha0 (show (30 : Nat) ∉ [20, 60] by decide)
      have f10 := k5 _ _ ha31 (show (61 : Nat) ∉ [20, 60] by decide)
      have mo11 : pd_MO G h3 y ad (pd_fu fv 30 f6) (pd_fu iv 35 (nI ((gr_dig an ++ [32] ++ cs.take cs.length ++ [32]).length))) tl := pd_MO.ext f7 (fun j9 hj9 => by by_cases e930 : j9 = 30; subst e930; rfl; simp only [pd_fu, if_neg e930]) rfl
      have hy12 : h3 y = some (20, .inr (10, [.ref (ad 0), .ref (ad 1), .ref (ad 2), .int (iv 3), .int (iv 4), .int (iv 5), .ref (ad 6), .ref (ad 7), .ref (ad 8), .ref (ad 9), .ref (ad 10), .ref (ad 11), .int (iv 12), .ref (ad 13), .ref (ad 14), .ref (ad 15), .ref (ad 16), .ref (ad 17), .ref (ad 18), .ref (ad 19), .int (iv 20), .ref (ad 21), .ref (ad 22), .ref (ad 23), .ref (ad 24), .ref (ad 25), .ref (ad 26), .ref (ad 27), .ref (ad 28), .int (iv 29), .ref (ad 30), .ref (ad 31), .int (iv 32), .int (iv 33), .int (iv 34), .int (nI ((gr_dig an ++ [32] ++ cs.take cs.length ++ [32]).length)), .long tl, .int (iv 37), .int (iv 38), .int (iv 39), .int (iv 40), .ref (ad 41), .ref (ad 42), .int (iv 43)])) := mo11.1
      have ha13 : h3 (ad 0) = some (30, .inl (.int, 60, .inl (fv 0))) := (mo11.2.2 0 (by decide)).1
      have ha14 : h3 (ad 30) = some (60, .inl (.int, 1152, .inl (f6))) := (mo11.2.2 30 (by decide)).1
      have ha15 : h3 (ad 31) = some (61, .inl (.int, 12, .inl (fv 31))) := (mo11.2.2 31 (by decide)).1
      refine lv_iload_n hx hb d_p15m43_51 rfl (lv_at hl 2 rfl) ?_
      by_cases z17 : ans = (-7)
      · -- case -7: 128
        refine lv_tableIn (tgt := 128) hx hb d_p15m43_52 (by rw [z17]; decide) (by rw [z17]; decide) (by rw [z17]; rfl) (by decide) ?_
        refine lv_aload_n hx hb d_p15m43_128 rfl (lv_at hl 1 rfl) ?_
        refine lv_ldc2 (v := 110386723317092) hx hb X.2.2.2.2.1 (X.2.2.2.2.2.1 _ mT_1448) d_p15m43_129 ?_
        refine pd_cVv (a := y) (As := [.long 110386723317092]) (rest := []) X w hy12 rfl (c_Mod_said l G h3 (an := an) (f0 := fv 30) (ws := gr_dig an ++ [32] ++ cs.take cs.length ++ [32]) (ad := ad) (fv := pd_fu fv 30 f6) (iv := pd_fu iv 35 (nI ((gr_dig an ++ [32] ++ cs.take cs.length ++ [32]).length))) (tl := tl) mo11 (by assumption) (by omega) (by first | rfl | assumption) (by assumption) (by (try simp only [List.length_append, List.length_cons, List.length_nil, List.length_map, List.length_range, List.length_take]); omega)) ok_Mod_said ⟨mT_1444, sT_48⟩ mT_1442 ⟨by decide, by decide⟩ rfl hl.1 rfl (Nat.le_of_ble_eq_true rfl) d_p15m43_132 ⟨by decide, by decide⟩ (fun h19 H locs hp20 w => ?_)
        refine W.widen (k := 0) (n := 0) (by decide) (by decide) ?_
        obtain ⟨k21, f22, f23, f24⟩ := hp20
        have f25 := k21 _ _ ha13 (show (30 : Nat) ∉ [20, 60] by decide)
        have f26 := k21 _ _ ha15 (show (61 : Nat) ∉ [20, 60] by decide)
        have mo27 : pd_MO G h19 y ad (pd_fu fv 30 f22) (pd_fu iv 35 (nI ((gr_dig an ++ [32] ++ cs.take cs.length ++ [32] ++ gm_sd 110386723317092).length))) tl := pd_MO.ext f23 (fun j9 hj9 => by by_cases e930 : j9 = 30; subst e930; rfl; simp only [pd_fu, if_neg e930]) rfl
        have hy28 : h19 y = some (20, .inr (10, [.ref (ad 0), .ref (ad 1), .ref (ad 2), .int (iv 3), .int (iv 4), .int (iv 5), .ref (ad 6), .ref (ad 7), .ref (ad 8), .ref (ad 9), .ref (ad 10), .ref (ad 11), .int (iv 12), .ref (ad 13), .ref (ad 14), .ref (ad 15), .ref (ad 16), .ref (ad 17), .ref (ad 18), .ref (ad 19), .int (iv 20), .ref (ad 21), .ref (ad 22), .ref (ad 23), .ref (ad 24), .ref (ad 25), .ref (ad 26), .ref (ad 27), .ref (ad 28), .int (iv 29), .ref (ad 30), .ref (ad 31), .int (iv 32), .int (iv 33), .int (iv 34), .int (nI ((gr_dig an ++ [32] ++ cs.take cs.length ++ [32] ++ gm_sd 110386723317092).length)), .long tl, .int (iv 37), .int (iv 38), .int (iv 39), .int (iv 40), .ref (ad 41), .ref (ad 42), .int (iv 43)])) := mo27.1
        have ha29 : h19 (ad 0) = some (30, .inl (.int, 60, .inl (fv 0))) := (mo27.2.2 0 (by decide)).1
        have ha30 : h19 (ad 30) = some (60, .inl (.int, 1152, .inl (f22))) := (mo27.2.2 30 (by decide)).1
        have ha31 : h19 (ad 31) = some (61, .inl (.int, 12, .inl (fv 31))) := (mo27.2.2 31 (by decide)).1
        refine lv_goto (tgt := 178) hx hb d_p15m43_135 (by decide) ?_
        have hatx : gr_atx an cs ans = gr_dig an ++ [32] ++ cs.take cs.length ++ [32] ++ gm_sd 110386723317092 := by unfold gr_atx; rw [z17, show gr_ow (-7) = [100, 101, 110, 105, 101, 100] by decide, show gr_od (-7) = [] by decide, gm_sd_3, List.take_length] <;> simp
        have hatl : (gr_atx an cs ans).length ≤ 96 := by unfold gr_atx; have z1 := gr_ow_len ans; have z2 := gm_od_len ans; simp only [List.length_append, List.length_cons, List.length_nil]; omega
        refine lv_aload_n hx hb d_p15m43_178 rfl (lv_at hl 1 rfl) ?_
        refine pd_get X w hy28 rfl 31 (by decide) mT_1170 rfl rfl d_p15m43_179 ?_
        refine lv_aload_n hx hb d_p15m43_182 rfl (lv_at hl 1 rfl) ?_
        refine pd_get X w hy28 rfl 32 (by decide) mT_1171 rfl rfl d_p15m43_183 ?_
        refine pd_top (v' := .int (nI an)) (congrArg Value.int hiv32) ?_
        refine lv_bipush (v := nI 12) hx hb d_p15m43_186 (by decide) ?_
        refine lv_irem hx hb d_p15m43_188 (by decide) ?_
        refine pd_top (v' := .int (nI (an % 12))) (by rw [pk_rem (by omega) (by omega) (by omega)]) ?_
        refine lv_aload_n hx hb d_p15m43_189 rfl (lv_at hl 1 rfl) ?_
        refine pd_get X w hy28 rfl 35 (by decide) mT_1174 rfl rfl d_p15m43_190 ?_
        refine pd_iast X w ha31 (hMO.2.2 31 (by decide)).2 (by omega) (by omega) d_p15m43_193 (fun H locs w => ?_)
        have w : pd_w G s H locs (pd_up h19 (ad 31) (61, .inl (.int, 12, .inl (upd (fv 31) (an % 12) (nI ((gr_dig an ++ [32] ++ cs.take cs.length ++ [32] ++ gm_sd 110386723317092).length)))))) := w
        obtain ⟨h32, u35⟩ : ∃ z, z = pd_up h19 (ad 31) (61, .inl (.int, 12, .inl (upd (fv 31) (an % 12) (nI ((gr_dig an ++ [32] ++ cs.take cs.length ++ [32] ++ gm_sd 110386723317092).length))))) := ⟨_, rfl⟩
        rw [← u35] at w
        have k33 : pd_kq (ad 31) h19 h32 := by rw [u35]; exact pd_up_kq
        have f34 : h32 (ad 31) = some (61, .inl (.int, 12, .inl (upd (fv 31) (an % 12) (nI ((gr_dig an ++ [32] ++ cs.take cs.length ++ [32] ++ gm_sd 110386723317092).length))))) := by rw [u35]; exact pd_up_s _ _ _
        have f36 := k33 _ _ (pd_ne hy28 ha31 (by simp)) hy28
        have f37 := k33 _ _ (pd_ne ha29 ha31 (by simp)) ha29
        have f38 := k33 _ _ (pd_ne ha30 ha31 (by simp)) ha30
        have mo39 : pd_MO G h32 y ad (pd_fu (pd_fu fv 30 f22) 31 (upd (fv 31) (an % 12) (nI ((gr_dig an ++ [32] ++ cs.take cs.length ++ [32] ++ gm_sd 110386723317092).length)))) (pd_fu iv 35 (nI ((gr_dig an ++ [32] ++ cs.take cs.length ++ [32] ++ gm_sd 110386723317092).length))) tl := pd_MO.of (ts := [61]) mo27 (pd_kq.kx (k33) ha31) f36 (fun j hj => if e31 : j = 31 then by subst e31; exact Or.inl f34 else Or.inr ⟨fun z => by first | (simp at z; done) | (simp at z; omega), by rw [pd_fu_n e31]⟩)
        exact pd_vret X w ⟨hk2.tr (pd_kx.tr (pd_kx.mono (us := [20, 60, 61]) (pd_kx.tr (k5) (k21)) (by simp)) (pd_kx.mono (us := [20, 60, 61]) (pd_kq.kx (k33) ha31) (by simp))), f22, upd (fv 31) (an % 12) (nI ((gr_dig an ++ [32] ++ cs.take cs.length ++ [32] ++ gm_sd 110386723317092).length)), (nI ((gr_dig an ++ [32] ++ cs.take cs.length ++ [32] ++ gm_sd 110386723317092).length)), mo39, gm_A_w hA (by omega) (by rw [hatx]; exact f24) (by rw [hatx]) hatl⟩ (by decide) (by decide) d_p15m43_194
      by_cases z40 : ans = (-6)
      · -- case -6: 112
        refine lv_tableIn (tgt := 112) hx hb d_p15m43_52 (by rw [z40]; decide) (by rw [z40]; decide) (by rw [z40]; rfl) (by decide) ?_
        refine lv_aload_n hx hb d_p15m43_112 rfl (lv_at hl 1 rfl) ?_
        refine lv_ldc2 (v := 7306074899287797606) hx hb X.2.2.2.2.1 (X.2.2.2.2.2.1 _ mT_1447) d_p15m43_113 ?_
        refine pd_cVv (a := y) (As := [.long 7306074899287797606]) (rest := []) X w hy12 rfl (c_Mod_said l G h3 (an := an) (f0 := fv 30) (ws := gr_dig an ++ [32] ++ cs.take cs.length ++ [32]) (ad := ad) (fv := pd_fu fv 30 f6) (iv := pd_fu iv 35 (nI ((gr_dig an ++ [32] ++ cs.take cs.length ++ [32]).length))) (tl := tl) mo11 (by assumption) (by omega) (by first | rfl | assumption) (by assumption) (by (try simp only [List.length_append, List.length_cons, List.length_nil, List.length_map, List.length_range, List.length_take]); omega)) ok_Mod_said ⟨mT_1444, sT_48⟩ mT_1442 ⟨by decide, by decide⟩ rfl hl.1 rfl (Nat.le_of_ble_eq_true rfl) d_p15m43_116 ⟨by decide, by decide⟩ (fun h42 H locs hp43 w => ?_)
        refine W.widen (k := 0) (n := 0) (by decide) (by decide) ?_
        obtain ⟨k44, f45, f46, f47⟩ := hp43
        have f48 := k44 _ _ ha13 (show (30 : Nat) ∉ [20, 60] by decide)
        have f49 := k44 _ _ ha15 (show (61 : Nat) ∉ [20, 60] by decide)
        have mo50 : pd_MO G h42 y ad (pd_fu fv 30 f45) (pd_fu iv 35 (nI ((gr_dig an ++ [32] ++ cs.take cs.length ++ [32] ++ gm_sd 7306074899287797606).length))) tl := pd_MO.ext f46 (fun j9 hj9 => by by_cases e930 : j9 = 30; subst e930; rfl; simp only [pd_fu, if_neg e930]) rfl
        have hy51 : h42 y = some (20, .inr (10, [.ref (ad 0), .ref (ad 1), .ref (ad 2), .int (iv 3), .int (iv 4), .int (iv 5), .ref (ad 6), .ref (ad 7), .ref (ad 8), .ref (ad 9), .ref (ad 10), .ref (ad 11), .int (iv 12), .ref (ad 13), .ref (ad 14), .ref (ad 15), .ref (ad 16), .ref (ad 17), .ref (ad 18), .ref (ad 19), .int (iv 20), .ref (ad 21), .ref (ad 22), .ref (ad 23), .ref (ad 24), .ref (ad 25), .ref (ad 26), .ref (ad 27), .ref (ad 28), .int (iv 29), .ref (ad 30), .ref (ad 31), .int (iv 32), .int (iv 33), .int (iv 34), .int (nI ((gr_dig an ++ [32] ++ cs.take cs.length ++ [32] ++ gm_sd 7306074899287797606).length)), .long tl, .int (iv 37), .int (iv 38), .int (iv 39), .int (iv 40), .ref (ad 41), .ref (ad 42), .int (iv 43)])) := mo50.1
        have ha52 : h42 (ad 0) = some (30, .inl (.int, 60, .inl (fv 0))) := (mo50.2.2 0 (by decide)).1
        have ha53 : h42 (ad 30) = some (60, .inl (.int, 1152, .inl (f45))) := (mo50.2.2 30 (by decide)).1
        have ha54 : h42 (ad 31) = some (61, .inl (.int, 12, .inl (fv 31))) := (mo50.2.2 31 (by decide)).1
        refine lv_aload_n hx hb d_p15m43_119 rfl (lv_at hl 1 rfl) ?_
        refine lv_bipush (v := nI 110) hx hb d_p15m43_120 (by decide) ?_
        refine pd_cVv (a := y) (As := [.int (nI 110)]) (rest := []) X w hy51 rfl (c_Mod_letter l G h42 (an := an) (f0 := fv 30) (ws := gr_dig an ++ [32] ++ cs.take cs.length ++ [32] ++ gm_sd 7306074899287797606) (ad := ad) (fv := pd_fu fv 30 f45) (iv := pd_fu iv 35 (nI ((gr_dig an ++ [32] ++ cs.take cs.length ++ [32] ++ gm_sd 7306074899287797606).length))) (tl := tl) mo50 (by assumption) (by omega) (by first | rfl | assumption) (by assumption) (by (try simp only [List.length_append, List.length_cons, List.length_nil, List.length_map, List.length_range, List.length_take]); omega)) ok_Mod_letter ⟨mT_1439, sT_47⟩ mT_1437 ⟨by decide, by decide⟩ rfl hl.1 rfl (Nat.le_of_ble_eq_true rfl) d_p15m43_122 ⟨by decide, by decide⟩ (fun h56 H locs hp57 w => ?_)
        refine W.widen (k := 0) (n := 0) (by decide) (by decide) ?_
        obtain ⟨k58, f59, f60, f61⟩ := hp57
        have f62 := k58 _ _ ha52 (show (30 : Nat) ∉ [20, 60] by decide)
        have f63 := k58 _ _ ha54 (show (61 : Nat) ∉ [20, 60] by decide)
        have mo64 : pd_MO G h56 y ad (pd_fu fv 30 f59) (pd_fu iv 35 (nI ((gr_dig an ++ [32] ++ cs.take cs.length ++ [32] ++ gm_sd 7306074899287797606 ++ [110]).length))) tl := pd_MO.ext f60 (fun j9 hj9 => by by_cases e930 : j9 = 30; subst e930; rfl; simp only [pd_fu, if_neg e930]) rfl
        have hy65 : h56 y = some (20, .inr (10, [.ref (ad 0), .ref (ad 1), .ref (ad 2), .int (iv 3), .int (iv 4), .int (iv 5), .ref (ad 6), .ref (ad 7), .ref (ad 8), .ref (ad 9), .ref (ad 10), .ref (ad 11), .int (iv 12), .ref (ad 13), .ref (ad 14), .ref (ad 15), .ref (ad 16), .ref (ad 17), .ref (ad 18), .ref (ad 19), .int (iv 20), .ref (ad 21), .ref (ad 22), .ref (ad 23), .ref (ad 24), .ref (ad 25), .ref (ad 26), .ref (ad 27), .ref (ad 28), .int (iv 29), .ref (ad 30), .ref (ad 31), .int (iv 32), .int (iv 33), .int (iv 34), .int (nI ((gr_dig an ++ [32] ++ cs.take cs.length ++ [32] ++ gm_sd 7306074899287797606 ++ [110]).length)), .long tl, .int (iv 37), .int (iv 38), .int (iv 39), .int (iv 40), .ref (ad 41), .ref (ad 42), .int (iv 43)])) := mo64.1
        have ha66 : h56 (ad 0) = some (30, .inl (.int, 60, .inl (fv 0))) := (mo64.2.2 0 (by decide)).1
        have ha67 : h56 (ad 30) = some (60, .inl (.int, 1152, .inl (f59))) := (mo64.2.2 30 (by decide)).1
        have ha68 : h56 (ad 31) = some (61, .inl (.int, 12, .inl (fv 31))) := (mo64.2.2 31 (by decide)).1
        refine lv_goto (tgt := 178) hx hb d_p15m43_125 (by decide) ?_
        have hatx : gr_atx an cs ans = gr_dig an ++ [32] ++ cs.take cs.length ++ [32] ++ gm_sd 7306074899287797606 ++ [110] := by unfold gr_atx; rw [z40, show gr_ow (-6) = [102, 111, 114, 98, 105, 100, 100, 101, 110] by decide, show gr_od (-6) = [] by decide, gm_sd_2, List.take_length] <;> simp
        have hatl : (gr_atx an cs ans).length ≤ 96 := by unfold gr_atx; have z1 := gr_ow_len ans; have z2 := gm_od_len ans; simp only [List.length_append, List.length_cons, List.length_nil]; omega
        refine lv_aload_n hx hb d_p15m43_178 rfl (lv_at hl 1 rfl) ?_
        refine pd_get X w hy65 rfl 31 (by decide) mT_1170 rfl rfl d_p15m43_179 ?_
        refine lv_aload_n hx hb d_p15m43_182 rfl (lv_at hl 1 rfl) ?_
        refine pd_get X w hy65 rfl 32 (by decide) mT_1171 rfl rfl d_p15m43_183 ?_
        refine pd_top (v' := .int (nI an)) (congrArg Value.int hiv32) ?_
        refine lv_bipush (v := nI 12) hx hb d_p15m43_186 (by decide) ?_
        refine lv_irem hx hb d_p15m43_188 (by decide) ?_
        refine pd_top (v' := .int (nI (an % 12))) (by rw [pk_rem (by omega) (by omega) (by omega)]) ?_
        refine lv_aload_n hx hb d_p15m43_189 rfl (lv_at hl 1 rfl) ?_
        refine pd_get X w hy65 rfl 35 (by decide) mT_1174 rfl rfl d_p15m43_190 ?_
        refine pd_iast X w ha68 (hMO.2.2 31 (by decide)).2 (by omega) (by omega) d_p15m43_193 (fun H locs w => ?_)
        have w : pd_w G s H locs (pd_up h56 (ad 31) (61, .inl (.int, 12, .inl (upd (fv 31) (an % 12) (nI ((gr_dig an ++ [32] ++ cs.take cs.length ++ [32] ++ gm_sd 7306074899287797606 ++ [110]).length)))))) := w
        obtain ⟨h69, u72⟩ : ∃ z, z = pd_up h56 (ad 31) (61, .inl (.int, 12, .inl (upd (fv 31) (an % 12) (nI ((gr_dig an ++ [32] ++ cs.take cs.length ++ [32] ++ gm_sd 7306074899287797606 ++ [110]).length))))) := ⟨_, rfl⟩
        rw [← u72] at w
        have k70 : pd_kq (ad 31) h56 h69 := by rw [u72]; exact pd_up_kq
        have f71 : h69 (ad 31) = some (61, .inl (.int, 12, .inl (upd (fv 31) (an % 12) (nI ((gr_dig an ++ [32] ++ cs.take cs.length ++ [32] ++ gm_sd 7306074899287797606 ++ [110]).length))))) := by rw [u72]; exact pd_up_s _ _ _
        have f73 := k70 _ _ (pd_ne hy65 ha68 (by simp)) hy65
        have f74 := k70 _ _ (pd_ne ha66 ha68 (by simp)) ha66
        have f75 := k70 _ _ (pd_ne ha67 ha68 (by simp)) ha67
        have mo76 : pd_MO G h69 y ad (pd_fu (pd_fu fv 30 f59) 31 (upd (fv 31) (an % 12) (nI ((gr_dig an ++ [32] ++ cs.take cs.length ++ [32] ++ gm_sd 7306074899287797606 ++ [110]).length)))) (pd_fu iv 35 (nI ((gr_dig an ++ [32] ++ cs.take cs.length ++ [32] ++ gm_sd 7306074899287797606 ++ [110]).length))) tl := pd_MO.of (ts := [61]) mo64 (pd_kq.kx (k70) ha68) f73 (fun j hj => if e31 : j = 31 then by subst e31; exact Or.inl f71 else Or.inr ⟨fun z => by first | (simp at z; done) | (simp at z; omega), by rw [pd_fu_n e31]⟩)
        exact pd_vret X w ⟨hk2.tr (pd_kx.tr (pd_kx.mono (us := [20, 60, 61]) (pd_kx.tr (pd_kx.tr (k5) (k44)) (k58)) (by simp)) (pd_kx.mono (us := [20, 60, 61]) (pd_kq.kx (k70) ha68) (by simp))), f59, upd (fv 31) (an % 12) (nI ((gr_dig an ++ [32] ++ cs.take cs.length ++ [32] ++ gm_sd 7306074899287797606 ++ [110]).length)), (nI ((gr_dig an ++ [32] ++ cs.take cs.length ++ [32] ++ gm_sd 7306074899287797606 ++ [110]).length)), mo76, gm_A_w hA (by omega) (by rw [hatx]; exact f61) (by rw [hatx]) hatl⟩ (by decide) (by decide) d_p15m43_194
      by_cases z77 : ans = (-5)
      · -- case -5: 138
        refine lv_tableIn (tgt := 138) hx hb d_p15m43_52 (by rw [z77]; decide) (by rw [z77]; decide) (by rw [z77]; rfl) (by decide) ?_
        rw [z77] at hans
        exact absurd hans gr_aok_5
      by_cases z78 : ans = (-4)
      · -- case -4: 102
        refine lv_tableIn (tgt := 102) hx hb d_p15m43_52 (by rw [z78]; decide) (by rw [z78]; decide) (by rw [z78]; rfl) (by decide) ?_
        refine lv_aload_n hx hb d_p15m43_102 rfl (lv_at hl 1 rfl) ?_
        refine lv_ldc2 (v := 1684957547) hx hb X.2.2.2.2.1 (X.2.2.2.2.2.1 _ mT_1446) d_p15m43_103 ?_
        refine pd_cVv (a := y) (As := [.long 1684957547]) (rest := []) X w hy12 rfl (c_Mod_said l G h3 (an := an) (f0 := fv 30) (ws := gr_dig an ++ [32] ++ cs.take cs.length ++ [32]) (ad := ad) (fv := pd_fu fv 30 f6) (iv := pd_fu iv 35 (nI ((gr_dig an ++ [32] ++ cs.take cs.length ++ [32]).length))) (tl := tl) mo11 (by assumption) (by omega) (by first | rfl | assumption) (by assumption) (by (try simp only [List.length_append, List.length_cons, List.length_nil, List.length_map, List.length_range, List.length_take]); omega)) ok_Mod_said ⟨mT_1444, sT_48⟩ mT_1442 ⟨by decide, by decide⟩ rfl hl.1 rfl (Nat.le_of_ble_eq_true rfl) d_p15m43_106 ⟨by decide, by decide⟩ (fun h80 H locs hp81 w => ?_)
        refine W.widen (k := 0) (n := 0) (by decide) (by decide) ?_
        obtain ⟨k82, f83, f84, f85⟩ := hp81
        have f86 := k82 _ _ ha13 (show (30 : Nat) ∉ [20, 60] by decide)
        have f87 := k82 _ _ ha15 (show (61 : Nat) ∉ [20, 60] by decide)
        have mo88 : pd_MO G h80 y ad (pd_fu fv 30 f83) (pd_fu iv 35 (nI ((gr_dig an ++ [32] ++ cs.take cs.length ++ [32] ++ gm_sd 1684957547).length))) tl := pd_MO.ext f84 (fun j9 hj9 => by by_cases e930 : j9 = 30; subst e930; rfl; simp only [pd_fu, if_neg e930]) rfl
        have hy89 : h80 y = some (20, .inr (10, [.ref (ad 0), .ref (ad 1), .ref (ad 2), .int (iv 3), .int (iv 4), .int (iv 5), .ref (ad 6), .ref (ad 7), .ref (ad 8), .ref (ad 9), .ref (ad 10), .ref (ad 11), .int (iv 12), .ref (ad 13), .ref (ad 14), .ref (ad 15), .ref (ad 16), .ref (ad 17), .ref (ad 18), .ref (ad 19), .int (iv 20), .ref (ad 21), .ref (ad 22), .ref (ad 23), .ref (ad 24), .ref (ad 25), .ref (ad 26), .ref (ad 27), .ref (ad 28), .int (iv 29), .ref (ad 30), .ref (ad 31), .int (iv 32), .int (iv 33), .int (iv 34), .int (nI ((gr_dig an ++ [32] ++ cs.take cs.length ++ [32] ++ gm_sd 1684957547).length)), .long tl, .int (iv 37), .int (iv 38), .int (iv 39), .int (iv 40), .ref (ad 41), .ref (ad 42), .int (iv 43)])) := mo88.1
        have ha90 : h80 (ad 0) = some (30, .inl (.int, 60, .inl (fv 0))) := (mo88.2.2 0 (by decide)).1
        have ha91 : h80 (ad 30) = some (60, .inl (.int, 1152, .inl (f83))) := (mo88.2.2 30 (by decide)).1
        have ha92 : h80 (ad 31) = some (61, .inl (.int, 12, .inl (fv 31))) := (mo88.2.2 31 (by decide)).1
        refine lv_goto (tgt := 178) hx hb d_p15m43_109 (by decide) ?_
        have hatx : gr_atx an cs ans = gr_dig an ++ [32] ++ cs.take cs.length ++ [32] ++ gm_sd 1684957547 := by unfold gr_atx; rw [z78, show gr_ow (-4) = [107, 105, 110, 100] by decide, show gr_od (-4) = [] by decide, gm_sd_1, List.take_length] <;> simp
        have hatl : (gr_atx an cs ans).length ≤ 96 := by unfold gr_atx; have z1 := gr_ow_len ans; have z2 := gm_od_len ans; simp only [List.length_append, List.length_cons, List.length_nil]; omega
        refine lv_aload_n hx hb d_p15m43_178 rfl (lv_at hl 1 rfl) ?_
        refine pd_get X w hy89 rfl 31 (by decide) mT_1170 rfl rfl d_p15m43_179 ?_
        refine lv_aload_n hx hb d_p15m43_182 rfl (lv_at hl 1 rfl) ?_
        refine pd_get X w hy89 rfl 32 (by decide) mT_1171 rfl rfl d_p15m43_183 ?_
        refine pd_top (v' := .int (nI an)) (congrArg Value.int hiv32) ?_
        refine lv_bipush (v := nI 12) hx hb d_p15m43_186 (by decide) ?_
        refine lv_irem hx hb d_p15m43_188 (by decide) ?_
        refine pd_top (v' := .int (nI (an % 12))) (by rw [pk_rem (by omega) (by omega) (by omega)]) ?_
        refine lv_aload_n hx hb d_p15m43_189 rfl (lv_at hl 1 rfl) ?_
        refine pd_get X w hy89 rfl 35 (by decide) mT_1174 rfl rfl d_p15m43_190 ?_
        refine pd_iast X w ha92 (hMO.2.2 31 (by decide)).2 (by omega) (by omega) d_p15m43_193 (fun H locs w => ?_)
        have w : pd_w G s H locs (pd_up h80 (ad 31) (61, .inl (.int, 12, .inl (upd (fv 31) (an % 12) (nI ((gr_dig an ++ [32] ++ cs.take cs.length ++ [32] ++ gm_sd 1684957547).length)))))) := w
        obtain ⟨h93, u96⟩ : ∃ z, z = pd_up h80 (ad 31) (61, .inl (.int, 12, .inl (upd (fv 31) (an % 12) (nI ((gr_dig an ++ [32] ++ cs.take cs.length ++ [32] ++ gm_sd 1684957547).length))))) := ⟨_, rfl⟩
        rw [← u96] at w
        have k94 : pd_kq (ad 31) h80 h93 := by rw [u96]; exact pd_up_kq
        have f95 : h93 (ad 31) = some (61, .inl (.int, 12, .inl (upd (fv 31) (an % 12) (nI ((gr_dig an ++ [32] ++ cs.take cs.length ++ [32] ++ gm_sd 1684957547).length))))) := by rw [u96]; exact pd_up_s _ _ _
        have f97 := k94 _ _ (pd_ne hy89 ha92 (by simp)) hy89
        have f98 := k94 _ _ (pd_ne ha90 ha92 (by simp)) ha90
        have f99 := k94 _ _ (pd_ne ha91 ha92 (by simp)) ha91
        have mo100 : pd_MO G h93 y ad (pd_fu (pd_fu fv 30 f83) 31 (upd (fv 31) (an % 12) (nI ((gr_dig an ++ [32] ++ cs.take cs.length ++ [32] ++ gm_sd 1684957547).length)))) (pd_fu iv 35 (nI ((gr_dig an ++ [32] ++ cs.take cs.length ++ [32] ++ gm_sd 1684957547).length))) tl := pd_MO.of (ts := [61]) mo88 (pd_kq.kx (k94) ha92) f97 (fun j hj => if e31 : j = 31 then by subst e31; exact Or.inl f95 else Or.inr ⟨fun z => by first | (simp at z; done) | (simp at z; omega), by rw [pd_fu_n e31]⟩)
        exact pd_vret X w ⟨hk2.tr (pd_kx.tr (pd_kx.mono (us := [20, 60, 61]) (pd_kx.tr (k5) (k82)) (by simp)) (pd_kx.mono (us := [20, 60, 61]) (pd_kq.kx (k94) ha92) (by simp))), f83, upd (fv 31) (an % 12) (nI ((gr_dig an ++ [32] ++ cs.take cs.length ++ [32] ++ gm_sd 1684957547).length)), (nI ((gr_dig an ++ [32] ++ cs.take cs.length ++ [32] ++ gm_sd 1684957547).length)), mo100, gm_A_w hA (by omega) (by rw [hatx]; exact f85) (by rw [hatx]) hatl⟩ (by decide) (by decide) d_p15m43_194
      by_cases z101 : ans = (-3)
      · -- case -3: 138
        refine lv_tableIn (tgt := 138) hx hb d_p15m43_52 (by rw [z101]; decide) (by rw [z101]; decide) (by rw [z101]; rfl) (by decide) ?_
        rw [z101] at hans
        exact absurd hans gr_aok_3
      by_cases z102 : ans = (-2)
      · -- case -2: 92
        refine lv_tableIn (tgt := 92) hx hb d_p15m43_52 (by rw [z102]; decide) (by rw [z102]; decide) (by rw [z102]; rfl) (by decide) ?_
        refine lv_aload_n hx hb d_p15m43_92 rfl (lv_at hl 1 rfl) ?_
        refine lv_ldc2 (v := 31093567915781749) hx hb X.2.2.2.2.1 (X.2.2.2.2.2.1 _ mT_1441) d_p15m43_93 ?_
        refine pd_cVv (a := y) (As := [.long 31093567915781749]) (rest := []) X w hy12 rfl (c_Mod_said l G h3 (an := an) (f0 := fv 30) (ws := gr_dig an ++ [32] ++ cs.take cs.length ++ [32]) (ad := ad) (fv := pd_fu fv 30 f6) (iv := pd_fu iv 35 (nI ((gr_dig an ++ [32] ++ cs.take cs.length ++ [32]).length))) (tl := tl) mo11 (by assumption) (by omega) (by first | rfl | assumption) (by assumption) (by (try simp only [List.length_append, List.length_cons, List.length_nil, List.length_map, List.length_range, List.length_take]); omega)) ok_Mod_said ⟨mT_1444, sT_48⟩ mT_1442 ⟨by decide, by decide⟩ rfl hl.1 rfl (Nat.le_of_ble_eq_true rfl) d_p15m43_96 ⟨by decide, by decide⟩ (fun h104 H locs hp105 w => ?_)
        refine W.widen (k := 0) (n := 0) (by decide) (by decide) ?_
        obtain ⟨k106, f107, f108, f109⟩ := hp105
        have f110 := k106 _ _ ha13 (show (30 : Nat) ∉ [20, 60] by decide)
        have f111 := k106 _ _ ha15 (show (61 : Nat) ∉ [20, 60] by decide)
        have mo112 : pd_MO G h104 y ad (pd_fu fv 30 f107) (pd_fu iv 35 (nI ((gr_dig an ++ [32] ++ cs.take cs.length ++ [32] ++ gm_sd 31093567915781749).length))) tl := pd_MO.ext f108 (fun j9 hj9 => by by_cases e930 : j9 = 30; subst e930; rfl; simp only [pd_fu, if_neg e930]) rfl
        have hy113 : h104 y = some (20, .inr (10, [.ref (ad 0), .ref (ad 1), .ref (ad 2), .int (iv 3), .int (iv 4), .int (iv 5), .ref (ad 6), .ref (ad 7), .ref (ad 8), .ref (ad 9), .ref (ad 10), .ref (ad 11), .int (iv 12), .ref (ad 13), .ref (ad 14), .ref (ad 15), .ref (ad 16), .ref (ad 17), .ref (ad 18), .ref (ad 19), .int (iv 20), .ref (ad 21), .ref (ad 22), .ref (ad 23), .ref (ad 24), .ref (ad 25), .ref (ad 26), .ref (ad 27), .ref (ad 28), .int (iv 29), .ref (ad 30), .ref (ad 31), .int (iv 32), .int (iv 33), .int (iv 34), .int (nI ((gr_dig an ++ [32] ++ cs.take cs.length ++ [32] ++ gm_sd 31093567915781749).length)), .long tl, .int (iv 37), .int (iv 38), .int (iv 39), .int (iv 40), .ref (ad 41), .ref (ad 42), .int (iv 43)])) := mo112.1
        have ha114 : h104 (ad 0) = some (30, .inl (.int, 60, .inl (fv 0))) := (mo112.2.2 0 (by decide)).1
        have ha115 : h104 (ad 30) = some (60, .inl (.int, 1152, .inl (f107))) := (mo112.2.2 30 (by decide)).1
        have ha116 : h104 (ad 31) = some (61, .inl (.int, 12, .inl (fv 31))) := (mo112.2.2 31 (by decide)).1
        refine lv_goto (tgt := 178) hx hb d_p15m43_99 (by decide) ?_
        have hatx : gr_atx an cs ans = gr_dig an ++ [32] ++ cs.take cs.length ++ [32] ++ gm_sd 31093567915781749 := by unfold gr_atx; rw [z102, show gr_ow (-2) = [117, 110, 107, 110, 111, 119, 110] by decide, show gr_od (-2) = [] by decide, gm_sd_0, List.take_length] <;> simp
        have hatl : (gr_atx an cs ans).length ≤ 96 := by unfold gr_atx; have z1 := gr_ow_len ans; have z2 := gm_od_len ans; simp only [List.length_append, List.length_cons, List.length_nil]; omega
        refine lv_aload_n hx hb d_p15m43_178 rfl (lv_at hl 1 rfl) ?_
        refine pd_get X w hy113 rfl 31 (by decide) mT_1170 rfl rfl d_p15m43_179 ?_
        refine lv_aload_n hx hb d_p15m43_182 rfl (lv_at hl 1 rfl) ?_
        refine pd_get X w hy113 rfl 32 (by decide) mT_1171 rfl rfl d_p15m43_183 ?_
        refine pd_top (v' := .int (nI an)) (congrArg Value.int hiv32) ?_
        refine lv_bipush (v := nI 12) hx hb d_p15m43_186 (by decide) ?_
        refine lv_irem hx hb d_p15m43_188 (by decide) ?_
        refine pd_top (v' := .int (nI (an % 12))) (by rw [pk_rem (by omega) (by omega) (by omega)]) ?_
        refine lv_aload_n hx hb d_p15m43_189 rfl (lv_at hl 1 rfl) ?_
        refine pd_get X w hy113 rfl 35 (by decide) mT_1174 rfl rfl d_p15m43_190 ?_
        refine pd_iast X w ha116 (hMO.2.2 31 (by decide)).2 (by omega) (by omega) d_p15m43_193 (fun H locs w => ?_)
        have w : pd_w G s H locs (pd_up h104 (ad 31) (61, .inl (.int, 12, .inl (upd (fv 31) (an % 12) (nI ((gr_dig an ++ [32] ++ cs.take cs.length ++ [32] ++ gm_sd 31093567915781749).length)))))) := w
        obtain ⟨h117, u120⟩ : ∃ z, z = pd_up h104 (ad 31) (61, .inl (.int, 12, .inl (upd (fv 31) (an % 12) (nI ((gr_dig an ++ [32] ++ cs.take cs.length ++ [32] ++ gm_sd 31093567915781749).length))))) := ⟨_, rfl⟩
        rw [← u120] at w
        have k118 : pd_kq (ad 31) h104 h117 := by rw [u120]; exact pd_up_kq
        have f119 : h117 (ad 31) = some (61, .inl (.int, 12, .inl (upd (fv 31) (an % 12) (nI ((gr_dig an ++ [32] ++ cs.take cs.length ++ [32] ++ gm_sd 31093567915781749).length))))) := by rw [u120]; exact pd_up_s _ _ _
        have f121 := k118 _ _ (pd_ne hy113 ha116 (by simp)) hy113
        have f122 := k118 _ _ (pd_ne ha114 ha116 (by simp)) ha114
        have f123 := k118 _ _ (pd_ne ha115 ha116 (by simp)) ha115
        have mo124 : pd_MO G h117 y ad (pd_fu (pd_fu fv 30 f107) 31 (upd (fv 31) (an % 12) (nI ((gr_dig an ++ [32] ++ cs.take cs.length ++ [32] ++ gm_sd 31093567915781749).length)))) (pd_fu iv 35 (nI ((gr_dig an ++ [32] ++ cs.take cs.length ++ [32] ++ gm_sd 31093567915781749).length))) tl := pd_MO.of (ts := [61]) mo112 (pd_kq.kx (k118) ha116) f121 (fun j hj => if e31 : j = 31 then by subst e31; exact Or.inl f119 else Or.inr ⟨fun z => by first | (simp at z; done) | (simp at z; omega), by rw [pd_fu_n e31]⟩)
        exact pd_vret X w ⟨hk2.tr (pd_kx.tr (pd_kx.mono (us := [20, 60, 61]) (pd_kx.tr (k5) (k106)) (by simp)) (pd_kx.mono (us := [20, 60, 61]) (pd_kq.kx (k118) ha116) (by simp))), f107, upd (fv 31) (an % 12) (nI ((gr_dig an ++ [32] ++ cs.take cs.length ++ [32] ++ gm_sd 31093567915781749).length)), (nI ((gr_dig an ++ [32] ++ cs.take cs.length ++ [32] ++ gm_sd 31093567915781749).length)), mo124, gm_A_w hA (by omega) (by rw [hatx]; exact f109) (by rw [hatx]) hatl⟩ (by decide) (by decide) d_p15m43_194
      refine lv_tableOut (tgt := 138) hx hb d_p15m43_52 (pd_tout (lo := -7) (hi := -2) (by decide) (by intro j h1 h2; rcases (show j = -7 ∨ j = -6 ∨ j = -5 ∨ j = -4 ∨ j = -3 ∨ j = -2 by omega) with q | q | q | q | q | q <;> subst q; exact fun e9 => z17 (e9.trans (by decide)); exact fun e9 => z40 (e9.trans (by decide)); exact fun e9 => z77 (e9.trans (by decide)); exact fun e9 => z78 (e9.trans (by decide)); exact fun e9 => z101 (e9.trans (by decide)); exact fun e9 => z102 (e9.trans (by decide)))) (by decide) ?_
      rcases gr_aok_d hans z17 z40 z78 z102 with ⟨n9, hn9, hna⟩ | ⟨n9, hn9, hna⟩
      · -- p
        rw [hna] at hl
        have hl : lv_has ls 3 [(2, .int (nI cs.length)), (0, .ref y), (1, .int (nI n9))] := hl
        refine lv_aload_n hx hb d_p15m43_138 rfl (lv_at hl 1 rfl) ?_
        refine lv_iload_n hx hb d_p15m43_139 rfl (lv_at hl 2 rfl) ?_
        refine lv_sipush (v := nI 10000) hx hb d_p15m43_140 (by decide) ?_
        refine pd_jlt (tgt := 152) hx hb d_p15m43_143 (by decide) (by omega) (by omega) (fun q125 => ?_) (fun q125 => ?_)
        · -- taken: 152
          refine lv_ldc2 (v := 2124655) hx hb X.2.2.2.2.1 (X.2.2.2.2.2.1 _ mT_1450) d_p15m43_152 ?_
          refine pd_cVv (a := y) (As := [.long 2124655]) (rest := []) X w hy12 rfl (c_Mod_said l G h3 (an := an) (f0 := fv 30) (ws := gr_dig an ++ [32] ++ cs.take cs.length ++ [32]) (ad := ad) (fv := pd_fu fv 30 f6) (iv := pd_fu iv 35 (nI ((gr_dig an ++ [32] ++ cs.take cs.length ++ [32]).length))) (tl := tl) mo11 (by assumption) (by omega) (by first | rfl | assumption) (by assumption) (by (try simp only [List.length_append, List.length_cons, List.length_nil, List.length_map, List.length_range, List.length_take]); omega)) ok_Mod_said ⟨mT_1444, sT_48⟩ mT_1442 ⟨by decide, by decide⟩ rfl hl.1 rfl (Nat.le_of_ble_eq_true rfl) d_p15m43_155 ⟨by decide, by decide⟩ (fun h127 H locs hp128 w => ?_)
          refine W.widen (k := 0) (n := 0) (by decide) (by decide) ?_
          obtain ⟨k129, f130, f131, f132⟩ := hp128
          have f133 := k129 _ _ ha13 (show (30 : Nat) ∉ [20, 60] by decide)
          have f134 := k129 _ _ ha15 (show (61 : Nat) ∉ [20, 60] by decide)
          have mo135 : pd_MO G h127 y ad (pd_fu fv 30 f130) (pd_fu iv 35 (nI ((gr_dig an ++ [32] ++ cs.take cs.length ++ [32] ++ gm_sd 2124655).length))) tl := pd_MO.ext f131 (fun j9 hj9 => by by_cases e930 : j9 = 30; subst e930; rfl; simp only [pd_fu, if_neg e930]) rfl
          have hy136 : h127 y = some (20, .inr (10, [.ref (ad 0), .ref (ad 1), .ref (ad 2), .int (iv 3), .int (iv 4), .int (iv 5), .ref (ad 6), .ref (ad 7), .ref (ad 8), .ref (ad 9), .ref (ad 10), .ref (ad 11), .int (iv 12), .ref (ad 13), .ref (ad 14), .ref (ad 15), .ref (ad 16), .ref (ad 17), .ref (ad 18), .ref (ad 19), .int (iv 20), .ref (ad 21), .ref (ad 22), .ref (ad 23), .ref (ad 24), .ref (ad 25), .ref (ad 26), .ref (ad 27), .ref (ad 28), .int (iv 29), .ref (ad 30), .ref (ad 31), .int (iv 32), .int (iv 33), .int (iv 34), .int (nI ((gr_dig an ++ [32] ++ cs.take cs.length ++ [32] ++ gm_sd 2124655).length)), .long tl, .int (iv 37), .int (iv 38), .int (iv 39), .int (iv 40), .ref (ad 41), .ref (ad 42), .int (iv 43)])) := mo135.1
          have ha137 : h127 (ad 0) = some (30, .inl (.int, 60, .inl (fv 0))) := (mo135.2.2 0 (by decide)).1
          have ha138 : h127 (ad 30) = some (60, .inl (.int, 1152, .inl (f130))) := (mo135.2.2 30 (by decide)).1
          have ha139 : h127 (ad 31) = some (61, .inl (.int, 12, .inl (fv 31))) := (mo135.2.2 31 (by decide)).1
          refine lv_aload_n hx hb d_p15m43_158 rfl (lv_at hl 1 rfl) ?_
          refine lv_iload_n hx hb d_p15m43_159 rfl (lv_at hl 2 rfl) ?_
          refine lv_sipush (v := nI 10000) hx hb d_p15m43_160 (by decide) ?_
          refine pd_jlt (tgt := 174) hx hb d_p15m43_163 (by decide) (by omega) (by omega) (fun q140 => ?_) (fun q140 => ?_)
          · -- taken: 174
            refine lv_iload_n hx hb d_p15m43_174 rfl (lv_at hl 2 rfl) ?_
            refine pd_cVv (a := y) (As := [.int (nI n9)]) (rest := []) X w hy136 rfl (c_Mod_digits l G h127 (an := an) (f0 := fv 30) (ws := gr_dig an ++ [32] ++ cs.take cs.length ++ [32] ++ gm_sd 2124655) (ad := ad) (fv := pd_fu fv 30 f130) (iv := pd_fu iv 35 (nI ((gr_dig an ++ [32] ++ cs.take cs.length ++ [32] ++ gm_sd 2124655).length))) (tl := tl) mo135 (by assumption) (by omega) (by first | rfl | assumption) (by assumption) (by omega) (by (try simp only [List.length_append, List.length_cons, List.length_nil, List.length_map, List.length_range, List.length_take]); omega)) ok_Mod_digits ⟨mT_1435, sT_46⟩ mT_1433 ⟨by decide, by decide⟩ rfl hl.1 rfl (Nat.le_of_ble_eq_true rfl) d_p15m43_175 ⟨by decide, by decide⟩ (fun h142 H locs hp143 w => ?_)
            refine W.widen (k := 0) (n := 0) (by decide) (by decide) ?_
            obtain ⟨k144, f145, f146, f147⟩ := hp143
            have f148 := k144 _ _ ha137 (show (30 : Nat) ∉ [20, 60] by decide)
            have f149 := k144 _ _ ha139 (show (61 : Nat) ∉ [20, 60] by decide)
            have mo150 : pd_MO G h142 y ad (pd_fu fv 30 f145) (pd_fu iv 35 (nI ((gr_dig an ++ [32] ++ cs.take cs.length ++ [32] ++ gm_sd 2124655 ++ gr_dig n9).length))) tl := pd_MO.ext f146 (fun j9 hj9 => by by_cases e930 : j9 = 30; subst e930; rfl; simp only [pd_fu, if_neg e930]) rfl
            have hy151 : h142 y = some (20, .inr (10, [.ref (ad 0), .ref (ad 1), .ref (ad 2), .int (iv 3), .int (iv 4), .int (iv 5), .ref (ad 6), .ref (ad 7), .ref (ad 8), .ref (ad 9), .ref (ad 10), .ref (ad 11), .int (iv 12), .ref (ad 13), .ref (ad 14), .ref (ad 15), .ref (ad 16), .ref (ad 17), .ref (ad 18), .ref (ad 19), .int (iv 20), .ref (ad 21), .ref (ad 22), .ref (ad 23), .ref (ad 24), .ref (ad 25), .ref (ad 26), .ref (ad 27), .ref (ad 28), .int (iv 29), .ref (ad 30), .ref (ad 31), .int (iv 32), .int (iv 33), .int (iv 34), .int (nI ((gr_dig an ++ [32] ++ cs.take cs.length ++ [32] ++ gm_sd 2124655 ++ gr_dig n9).length)), .long tl, .int (iv 37), .int (iv 38), .int (iv 39), .int (iv 40), .ref (ad 41), .ref (ad 42), .int (iv 43)])) := mo150.1
            have ha152 : h142 (ad 0) = some (30, .inl (.int, 60, .inl (fv 0))) := (mo150.2.2 0 (by decide)).1
            have ha153 : h142 (ad 30) = some (60, .inl (.int, 1152, .inl (f145))) := (mo150.2.2 30 (by decide)).1
            have ha154 : h142 (ad 31) = some (61, .inl (.int, 12, .inl (fv 31))) := (mo150.2.2 31 (by decide)).1
            have hatx : gr_atx an cs ans = gr_dig an ++ [32] ++ cs.take cs.length ++ [32] ++ gm_sd 2124655 ++ gr_dig n9 := by unfold gr_atx; rw [hna, gr_ow_p hn9, gr_od_p hn9, gm_sd_5, List.take_length] <;> simp
            have hatl : (gr_atx an cs ans).length ≤ 96 := by unfold gr_atx; have z1 := gr_ow_len ans; have z2 := gm_od_len ans; simp only [List.length_append, List.length_cons, List.length_nil]; omega
            refine lv_aload_n hx hb d_p15m43_178 rfl (lv_at hl 1 rfl) ?_
            refine pd_get X w hy151 rfl 31 (by decide) mT_1170 rfl rfl d_p15m43_179 ?_
            refine lv_aload_n hx hb d_p15m43_182 rfl (lv_at hl 1 rfl) ?_
            refine pd_get X w hy151 rfl 32 (by decide) mT_1171 rfl rfl d_p15m43_183 ?_
            refine pd_top (v' := .int (nI an)) (congrArg Value.int hiv32) ?_
            refine lv_bipush (v := nI 12) hx hb d_p15m43_186 (by decide) ?_
            refine lv_irem hx hb d_p15m43_188 (by decide) ?_
            refine pd_top (v' := .int (nI (an % 12))) (by rw [pk_rem (by omega) (by omega) (by omega)]) ?_
            refine lv_aload_n hx hb d_p15m43_189 rfl (lv_at hl 1 rfl) ?_
            refine pd_get X w hy151 rfl 35 (by decide) mT_1174 rfl rfl d_p15m43_190 ?_
            refine pd_iast X w ha154 (hMO.2.2 31 (by decide)).2 (by omega) (by omega) d_p15m43_193 (fun H locs w => ?_)
            have w : pd_w G s H locs (pd_up h142 (ad 31) (61, .inl (.int, 12, .inl (upd (fv 31) (an % 12) (nI ((gr_dig an ++ [32] ++ cs.take cs.length ++ [32] ++ gm_sd 2124655 ++ gr_dig n9).length)))))) := w
            obtain ⟨h155, u158⟩ : ∃ z, z = pd_up h142 (ad 31) (61, .inl (.int, 12, .inl (upd (fv 31) (an % 12) (nI ((gr_dig an ++ [32] ++ cs.take cs.length ++ [32] ++ gm_sd 2124655 ++ gr_dig n9).length))))) := ⟨_, rfl⟩
            rw [← u158] at w
            have k156 : pd_kq (ad 31) h142 h155 := by rw [u158]; exact pd_up_kq
            have f157 : h155 (ad 31) = some (61, .inl (.int, 12, .inl (upd (fv 31) (an % 12) (nI ((gr_dig an ++ [32] ++ cs.take cs.length ++ [32] ++ gm_sd 2124655 ++ gr_dig n9).length))))) := by rw [u158]; exact pd_up_s _ _ _
            have f159 := k156 _ _ (pd_ne hy151 ha154 (by simp)) hy151
            have f160 := k156 _ _ (pd_ne ha152 ha154 (by simp)) ha152
            have f161 := k156 _ _ (pd_ne ha153 ha154 (by simp)) ha153
            have mo162 : pd_MO G h155 y ad (pd_fu (pd_fu fv 30 f145) 31 (upd (fv 31) (an % 12) (nI ((gr_dig an ++ [32] ++ cs.take cs.length ++ [32] ++ gm_sd 2124655 ++ gr_dig n9).length)))) (pd_fu iv 35 (nI ((gr_dig an ++ [32] ++ cs.take cs.length ++ [32] ++ gm_sd 2124655 ++ gr_dig n9).length))) tl := pd_MO.of (ts := [61]) mo150 (pd_kq.kx (k156) ha154) f159 (fun j hj => if e31 : j = 31 then by subst e31; exact Or.inl f157 else Or.inr ⟨fun z => by first | (simp at z; done) | (simp at z; omega), by rw [pd_fu_n e31]⟩)
            exact pd_vret X w ⟨hk2.tr (pd_kx.tr (pd_kx.mono (us := [20, 60, 61]) (pd_kx.tr (pd_kx.tr (k5) (k129)) (k144)) (by simp)) (pd_kx.mono (us := [20, 60, 61]) (pd_kq.kx (k156) ha154) (by simp))), f145, upd (fv 31) (an % 12) (nI ((gr_dig an ++ [32] ++ cs.take cs.length ++ [32] ++ gm_sd 2124655 ++ gr_dig n9).length)), (nI ((gr_dig an ++ [32] ++ cs.take cs.length ++ [32] ++ gm_sd 2124655 ++ gr_dig n9).length)), mo162, gm_A_w hA (by omega) (by rw [hatx]; exact f147) (by rw [hatx]) hatl⟩ (by decide) (by decide) d_p15m43_194
          · -- not taken: 166
            exfalso
            omega
        · -- not taken: 146
          exfalso
          omega
      · -- s
        rw [hna] at hl
        have hl : lv_has ls 3 [(2, .int (nI cs.length)), (0, .ref y), (1, .int (nI (10000 + n9)))] := hl
        refine lv_aload_n hx hb d_p15m43_138 rfl (lv_at hl 1 rfl) ?_
        refine lv_iload_n hx hb d_p15m43_139 rfl (lv_at hl 2 rfl) ?_
        refine lv_sipush (v := nI 10000) hx hb d_p15m43_140 (by decide) ?_
        refine pd_jlt (tgt := 152) hx hb d_p15m43_143 (by decide) (by omega) (by omega) (fun q163 => ?_) (fun q163 => ?_)
        · -- taken: 152
          exfalso
          omega
        · -- not taken: 146
          refine lv_ldc2 (v := 139274578035) hx hb X.2.2.2.2.1 (X.2.2.2.2.2.1 _ mT_1449) d_p15m43_146 ?_
          refine lv_goto (tgt := 155) hx hb d_p15m43_149 (by decide) ?_
          refine pd_cVv (a := y) (As := [.long 139274578035]) (rest := []) X w hy12 rfl (c_Mod_said l G h3 (an := an) (f0 := fv 30) (ws := gr_dig an ++ [32] ++ cs.take cs.length ++ [32]) (ad := ad) (fv := pd_fu fv 30 f6) (iv := pd_fu iv 35 (nI ((gr_dig an ++ [32] ++ cs.take cs.length ++ [32]).length))) (tl := tl) mo11 (by assumption) (by omega) (by first | rfl | assumption) (by assumption) (by (try simp only [List.length_append, List.length_cons, List.length_nil, List.length_map, List.length_range, List.length_take]); omega)) ok_Mod_said ⟨mT_1444, sT_48⟩ mT_1442 ⟨by decide, by decide⟩ rfl hl.1 rfl (Nat.le_of_ble_eq_true rfl) d_p15m43_155 ⟨by decide, by decide⟩ (fun h165 H locs hp166 w => ?_)
          refine W.widen (k := 0) (n := 0) (by decide) (by decide) ?_
          obtain ⟨k167, f168, f169, f170⟩ := hp166
          have f171 := k167 _ _ ha13 (show (30 : Nat) ∉ [20, 60] by decide)
          have f172 := k167 _ _ ha15 (show (61 : Nat) ∉ [20, 60] by decide)
          have mo173 : pd_MO G h165 y ad (pd_fu fv 30 f168) (pd_fu iv 35 (nI ((gr_dig an ++ [32] ++ cs.take cs.length ++ [32] ++ gm_sd 139274578035).length))) tl := pd_MO.ext f169 (fun j9 hj9 => by by_cases e930 : j9 = 30; subst e930; rfl; simp only [pd_fu, if_neg e930]) rfl
          have hy174 : h165 y = some (20, .inr (10, [.ref (ad 0), .ref (ad 1), .ref (ad 2), .int (iv 3), .int (iv 4), .int (iv 5), .ref (ad 6), .ref (ad 7), .ref (ad 8), .ref (ad 9), .ref (ad 10), .ref (ad 11), .int (iv 12), .ref (ad 13), .ref (ad 14), .ref (ad 15), .ref (ad 16), .ref (ad 17), .ref (ad 18), .ref (ad 19), .int (iv 20), .ref (ad 21), .ref (ad 22), .ref (ad 23), .ref (ad 24), .ref (ad 25), .ref (ad 26), .ref (ad 27), .ref (ad 28), .int (iv 29), .ref (ad 30), .ref (ad 31), .int (iv 32), .int (iv 33), .int (iv 34), .int (nI ((gr_dig an ++ [32] ++ cs.take cs.length ++ [32] ++ gm_sd 139274578035).length)), .long tl, .int (iv 37), .int (iv 38), .int (iv 39), .int (iv 40), .ref (ad 41), .ref (ad 42), .int (iv 43)])) := mo173.1
          have ha175 : h165 (ad 0) = some (30, .inl (.int, 60, .inl (fv 0))) := (mo173.2.2 0 (by decide)).1
          have ha176 : h165 (ad 30) = some (60, .inl (.int, 1152, .inl (f168))) := (mo173.2.2 30 (by decide)).1
          have ha177 : h165 (ad 31) = some (61, .inl (.int, 12, .inl (fv 31))) := (mo173.2.2 31 (by decide)).1
          refine lv_aload_n hx hb d_p15m43_158 rfl (lv_at hl 1 rfl) ?_
          refine lv_iload_n hx hb d_p15m43_159 rfl (lv_at hl 2 rfl) ?_
          refine lv_sipush (v := nI 10000) hx hb d_p15m43_160 (by decide) ?_
          refine pd_jlt (tgt := 174) hx hb d_p15m43_163 (by decide) (by omega) (by omega) (fun q178 => ?_) (fun q178 => ?_)
          · -- taken: 174
            exfalso
            omega
          · -- not taken: 166
            refine lv_iload_n hx hb d_p15m43_166 rfl (lv_at hl 2 rfl) ?_
            refine lv_sipush (v := nI 10000) hx hb d_p15m43_167 (by decide) ?_
            refine pd_isub hx hb d_p15m43_170 (by omega) ?_
            refine lv_goto (tgt := 175) hx hb d_p15m43_171 (by decide) ?_
            refine pd_top (v' := .int (nI n9)) (by rw [show 10000 + n9 - 10000 = n9 by omega]) ?_
            refine pd_cVv (a := y) (As := [.int (nI n9)]) (rest := []) X w hy174 rfl (c_Mod_digits l G h165 (an := an) (f0 := fv 30) (ws := gr_dig an ++ [32] ++ cs.take cs.length ++ [32] ++ gm_sd 139274578035) (ad := ad) (fv := pd_fu fv 30 f168) (iv := pd_fu iv 35 (nI ((gr_dig an ++ [32] ++ cs.take cs.length ++ [32] ++ gm_sd 139274578035).length))) (tl := tl) mo173 (by assumption) (by omega) (by first | rfl | assumption) (by assumption) (by omega) (by (try simp only [List.length_append, List.length_cons, List.length_nil, List.length_map, List.length_range, List.length_take]); omega)) ok_Mod_digits ⟨mT_1435, sT_46⟩ mT_1433 ⟨by decide, by decide⟩ rfl hl.1 rfl (Nat.le_of_ble_eq_true rfl) d_p15m43_175 ⟨by decide, by decide⟩ (fun h180 H locs hp181 w => ?_)
            refine W.widen (k := 0) (n := 0) (by decide) (by decide) ?_
            obtain ⟨k182, f183, f184, f185⟩ := hp181
            have f186 := k182 _ _ ha175 (show (30 : Nat) ∉ [20, 60] by decide)
            have f187 := k182 _ _ ha177 (show (61 : Nat) ∉ [20, 60] by decide)
            have mo188 : pd_MO G h180 y ad (pd_fu fv 30 f183) (pd_fu iv 35 (nI ((gr_dig an ++ [32] ++ cs.take cs.length ++ [32] ++ gm_sd 139274578035 ++ gr_dig n9).length))) tl := pd_MO.ext f184 (fun j9 hj9 => by by_cases e930 : j9 = 30; subst e930; rfl; simp only [pd_fu, if_neg e930]) rfl
            have hy189 : h180 y = some (20, .inr (10, [.ref (ad 0), .ref (ad 1), .ref (ad 2), .int (iv 3), .int (iv 4), .int (iv 5), .ref (ad 6), .ref (ad 7), .ref (ad 8), .ref (ad 9), .ref (ad 10), .ref (ad 11), .int (iv 12), .ref (ad 13), .ref (ad 14), .ref (ad 15), .ref (ad 16), .ref (ad 17), .ref (ad 18), .ref (ad 19), .int (iv 20), .ref (ad 21), .ref (ad 22), .ref (ad 23), .ref (ad 24), .ref (ad 25), .ref (ad 26), .ref (ad 27), .ref (ad 28), .int (iv 29), .ref (ad 30), .ref (ad 31), .int (iv 32), .int (iv 33), .int (iv 34), .int (nI ((gr_dig an ++ [32] ++ cs.take cs.length ++ [32] ++ gm_sd 139274578035 ++ gr_dig n9).length)), .long tl, .int (iv 37), .int (iv 38), .int (iv 39), .int (iv 40), .ref (ad 41), .ref (ad 42), .int (iv 43)])) := mo188.1
            have ha190 : h180 (ad 0) = some (30, .inl (.int, 60, .inl (fv 0))) := (mo188.2.2 0 (by decide)).1
            have ha191 : h180 (ad 30) = some (60, .inl (.int, 1152, .inl (f183))) := (mo188.2.2 30 (by decide)).1
            have ha192 : h180 (ad 31) = some (61, .inl (.int, 12, .inl (fv 31))) := (mo188.2.2 31 (by decide)).1
            have hatx : gr_atx an cs ans = gr_dig an ++ [32] ++ cs.take cs.length ++ [32] ++ gm_sd 139274578035 ++ gr_dig n9 := by unfold gr_atx; rw [hna, gr_ow_s hn9, gr_od_s hn9, gm_sd_4, List.take_length] <;> simp
            have hatl : (gr_atx an cs ans).length ≤ 96 := by unfold gr_atx; have z1 := gr_ow_len ans; have z2 := gm_od_len ans; simp only [List.length_append, List.length_cons, List.length_nil]; omega
            refine lv_aload_n hx hb d_p15m43_178 rfl (lv_at hl 1 rfl) ?_
            refine pd_get X w hy189 rfl 31 (by decide) mT_1170 rfl rfl d_p15m43_179 ?_
            refine lv_aload_n hx hb d_p15m43_182 rfl (lv_at hl 1 rfl) ?_
            refine pd_get X w hy189 rfl 32 (by decide) mT_1171 rfl rfl d_p15m43_183 ?_
            refine pd_top (v' := .int (nI an)) (congrArg Value.int hiv32) ?_
            refine lv_bipush (v := nI 12) hx hb d_p15m43_186 (by decide) ?_
            refine lv_irem hx hb d_p15m43_188 (by decide) ?_
            refine pd_top (v' := .int (nI (an % 12))) (by rw [pk_rem (by omega) (by omega) (by omega)]) ?_
            refine lv_aload_n hx hb d_p15m43_189 rfl (lv_at hl 1 rfl) ?_
            refine pd_get X w hy189 rfl 35 (by decide) mT_1174 rfl rfl d_p15m43_190 ?_
            refine pd_iast X w ha192 (hMO.2.2 31 (by decide)).2 (by omega) (by omega) d_p15m43_193 (fun H locs w => ?_)
            have w : pd_w G s H locs (pd_up h180 (ad 31) (61, .inl (.int, 12, .inl (upd (fv 31) (an % 12) (nI ((gr_dig an ++ [32] ++ cs.take cs.length ++ [32] ++ gm_sd 139274578035 ++ gr_dig n9).length)))))) := w
            obtain ⟨h193, u196⟩ : ∃ z, z = pd_up h180 (ad 31) (61, .inl (.int, 12, .inl (upd (fv 31) (an % 12) (nI ((gr_dig an ++ [32] ++ cs.take cs.length ++ [32] ++ gm_sd 139274578035 ++ gr_dig n9).length))))) := ⟨_, rfl⟩
            rw [← u196] at w
            have k194 : pd_kq (ad 31) h180 h193 := by rw [u196]; exact pd_up_kq
            have f195 : h193 (ad 31) = some (61, .inl (.int, 12, .inl (upd (fv 31) (an % 12) (nI ((gr_dig an ++ [32] ++ cs.take cs.length ++ [32] ++ gm_sd 139274578035 ++ gr_dig n9).length))))) := by rw [u196]; exact pd_up_s _ _ _
            have f197 := k194 _ _ (pd_ne hy189 ha192 (by simp)) hy189
            have f198 := k194 _ _ (pd_ne ha190 ha192 (by simp)) ha190
            have f199 := k194 _ _ (pd_ne ha191 ha192 (by simp)) ha191
            have mo200 : pd_MO G h193 y ad (pd_fu (pd_fu fv 30 f183) 31 (upd (fv 31) (an % 12) (nI ((gr_dig an ++ [32] ++ cs.take cs.length ++ [32] ++ gm_sd 139274578035 ++ gr_dig n9).length)))) (pd_fu iv 35 (nI ((gr_dig an ++ [32] ++ cs.take cs.length ++ [32] ++ gm_sd 139274578035 ++ gr_dig n9).length))) tl := pd_MO.of (ts := [61]) mo188 (pd_kq.kx (k194) ha192) f197 (fun j hj => if e31 : j = 31 then by subst e31; exact Or.inl f195 else Or.inr ⟨fun z => by first | (simp at z; done) | (simp at z; omega), by rw [pd_fu_n e31]⟩)
            exact pd_vret X w ⟨hk2.tr (pd_kx.tr (pd_kx.mono (us := [20, 60, 61]) (pd_kx.tr (pd_kx.tr (k5) (k167)) (k182)) (by simp)) (pd_kx.mono (us := [20, 60, 61]) (pd_kq.kx (k194) ha192) (by simp))), f183, upd (fv 31) (an % 12) (nI ((gr_dig an ++ [32] ++ cs.take cs.length ++ [32] ++ gm_sd 139274578035 ++ gr_dig n9).length)), (nI ((gr_dig an ++ [32] ++ cs.take cs.length ++ [32] ++ gm_sd 139274578035 ++ gr_dig n9).length)), mo200, gm_A_w hA (by omega) (by rw [hatx]; exact f185) (by rw [hatx]) hatl⟩ (by decide) (by decide) d_p15m43_194
    · -- not taken: 29
      refine lv_aload_n hx hb d_p15m43_29 rfl (lv_at hl 1 rfl) ?_
      refine lv_aload_n hx hb d_p15m43_30 rfl (lv_at hl 1 rfl) ?_
      refine pd_get X w hy2 rfl 0 (by decide) mT_1139 rfl rfl d_p15m43_31 ?_
      refine lv_iload_n hx hb d_p15m43_34 rfl (lv_at hl 0 rfl) ?_
      refine pd_iald X w ha0 (by omega) (by omega) d_p15m43_35 ?_
      refine pd_top (v' := .int (nI (cs.getD k9 0))) (congrArg Value.int (hln _ (by omega))) ?_
      have := tx_lt hlc k9
      refine pd_cVv (a := y) (As := [.int (nI (cs.getD k9 0))]) (rest := []) X w hy2 rfl (c_Mod_letter l G hh (an := an) (f0 := fv 30) (ws := gr_dig an ++ [32] ++ cs.take k9) (ad := ad) (fv := pd_fu fv 30 f9) (iv := pd_fu iv 35 (nI (gr_dig an ++ [32] ++ cs.take k9).length)) (tl := tl) hMO2 (by assumption) (by omega) (by first | rfl | assumption) (by assumption) (by (try simp only [List.length_append, List.length_cons, List.length_nil, List.length_map, List.length_range, List.length_take]); omega)) ok_Mod_letter ⟨mT_1439, sT_47⟩ mT_1437 ⟨by decide, by decide⟩ rfl hl.1 rfl (Nat.le_of_ble_eq_true rfl) d_p15m43_36 ⟨by decide, by decide⟩ (fun h202 H locs hp203 w => ?_)
      refine W.widen (k := 0) (n := 0) (by decide) (by decide) ?_
      obtain ⟨k204, f205, f206, f207⟩ := hp203
      have f208 := k204 _ _ ha0 (show (30 : Nat) ∉ [20, 60] by decide)
      have f209 := k204 _ _ ha31 (show (61 : Nat) ∉ [20, 60] by decide)
      have mo210 : pd_MO G h202 y ad (pd_fu fv 30 f205) (pd_fu iv 35 (nI ((gr_dig an ++ [32] ++ cs.take k9 ++ [cs.getD k9 0]).length))) tl := pd_MO.ext f206 (fun j9 hj9 => by by_cases e930 : j9 = 30; subst e930; rfl; simp only [pd_fu, if_neg e930]) rfl
      have hy211 : h202 y = some (20, .inr (10, [.ref (ad 0), .ref (ad 1), .ref (ad 2), .int (iv 3), .int (iv 4), .int (iv 5), .ref (ad 6), .ref (ad 7), .ref (ad 8), .ref (ad 9), .ref (ad 10), .ref (ad 11), .int (iv 12), .ref (ad 13), .ref (ad 14), .ref (ad 15), .ref (ad 16), .ref (ad 17), .ref (ad 18), .ref (ad 19), .int (iv 20), .ref (ad 21), .ref (ad 22), .ref (ad 23), .ref (ad 24), .ref (ad 25), .ref (ad 26), .ref (ad 27), .ref (ad 28), .int (iv 29), .ref (ad 30), .ref (ad 31), .int (iv 32), .int (iv 33), .int (iv 34), .int (nI ((gr_dig an ++ [32] ++ cs.take k9 ++ [cs.getD k9 0]).length)), .long tl, .int (iv 37), .int (iv 38), .int (iv 39), .int (iv 40), .ref (ad 41), .ref (ad 42), .int (iv 43)])) := mo210.1
      have ha212 : h202 (ad 0) = some (30, .inl (.int, 60, .inl (fv 0))) := (mo210.2.2 0 (by decide)).1
      have ha213 : h202 (ad 30) = some (60, .inl (.int, 1152, .inl (f205))) := (mo210.2.2 30 (by decide)).1
      have ha214 : h202 (ad 31) = some (61, .inl (.int, 12, .inl (fv 31))) := (mo210.2.2 31 (by decide)).1
      refine pd_iinc (k := 0) (d := 1) (lv' := [(2, .int (nI (k9 + 1))), (0, .ref y), (1, .int ans)]) hx hb d_p15m43_39 (by decide) hl rfl (by decide) rfl (fun ls hl => ?_)
      refine lv_goto (tgt := 21) hx hb d_p15m43_42 (by decide) ?_
      exact ih (k9 + 1) f205 h202 (by omega) (hk2.tr (pd_kx.mono (us := [20, 60, 61]) (k204) (by simp))) (by rw [gm_tk_s (by omega)]; exact mo210) (by rw [gm_tk_s (by omega)]; exact f207) (by omega) _ _ w ls (lv_sub hl [0, 1, 2] rfl)
set_option maxHeartbeats 4000000 in
set_option maxRecDepth 100000 in
theorem c_Mod_write (l : Launch) (G : pd_G) (h : pd_H) {y : Nat} {ad : Nat → Nat} {fv : Nat → Nat → Int32} {iv : Nat → Int32} {tl : Int64} {cs : List Nat} {an : Nat} {T : Nat → List Nat} {ans : Int32} (hMO : pd_MO G h y ad fv iv tl) (hL : gm_L fv iv cs) (hA : gm_A fv T) (hiv32 : iv 32 = nI an) (han : an < 1000) (hans : gr_aok ans) : pd_Mv l y_Mod_write prog_15_method_43_code 3 rm_Mod_write G h [.ref y, .int ans] (fun h1 => pd_kx [20, 60, 61] h h1 ∧ ∃ f30 f31 v35, pd_MO G h1 y ad (pd_fu (pd_fu fv 30 f30) 31 f31) (pd_fu iv 35 v35) tl ∧ gm_A (pd_fu (pd_fu fv 30 f30) 31 f31) (pd_fu T (an % 12) (gr_atx an cs ans))) := by
  refine pd_Mv.of (by decide) (Nat.le_of_ble_eq_true rfl) ?_
  intro p e s m below meth c X hmn w ls hl
  have hx := X.1
  have hb := X.2.1
  have hl : lv_has ls 3 [(0, .ref y), (1, .int ans)] := hl
  have hz_y := hMO.2.1
  have hy0 : h y = some (20, .inr (10, [.ref (ad 0), .ref (ad 1), .ref (ad 2), .int (iv 3), .int (iv 4), .int (iv 5), .ref (ad 6), .ref (ad 7), .ref (ad 8), .ref (ad 9), .ref (ad 10), .ref (ad 11), .int (iv 12), .ref (ad 13), .ref (ad 14), .ref (ad 15), .ref (ad 16), .ref (ad 17), .ref (ad 18), .ref (ad 19), .int (iv 20), .ref (ad 21), .ref (ad 22), .ref (ad 23), .ref (ad 24), .ref (ad 25), .ref (ad 26), .ref (ad 27), .ref (ad 28), .int (iv 29), .ref (ad 30), .ref (ad 31), .int (iv 32), .int (iv 33), .int (iv 34), .int (iv 35), .long tl, .int (iv 37), .int (iv 38), .int (iv 39), .int (iv 40), .ref (ad 41), .ref (ad 42), .int (iv 43)])) := hMO.1
  have ha0 : h (ad 0) = some (30, .inl (.int, 60, .inl (fv 0))) := (hMO.2.2 0 (by decide)).1
  have ha30 : h (ad 30) = some (60, .inl (.int, 1152, .inl (fv 30))) := (hMO.2.2 30 (by decide)).1
  have ha31 : h (ad 31) = some (61, .inl (.int, 12, .inl (fv 31))) := (hMO.2.2 31 (by decide)).1
  obtain ⟨hiv3, hln, hl60, hlc⟩ := id hL
  have hd0 := gr_dig_len (x := an)
  have hsl0 : (gm_sd 31093567915781749).length = 7 := by rw [gm_sd_0]; rfl
  have hsl1 : (gm_sd 1684957547).length = 4 := by rw [gm_sd_1]; rfl
  have hsl2 : (gm_sd 7306074899287797606).length = 8 := by rw [gm_sd_2]; rfl
  have hsl3 : (gm_sd 110386723317092).length = 6 := by rw [gm_sd_3]; rfl
  have hsl4 : (gm_sd 139274578035).length = 5 := by rw [gm_sd_4]; rfl
  have hsl5 : (gm_sd 2124655).length = 3 := by rw [gm_sd_5]; rfl
  refine lv_aload_n hx hb d_p15m43_0 rfl (lv_at hl 0 rfl) ?_
  refine lv_iconst (v := nI 0) hx hb d_p15m43_1 (by decide) ?_
  refine pd_put (ty := .int) X w hy0 hz_y rfl 35 (by decide) mT_1174 rfl rfl (by decide +kernel) rfl rfl (Nat.le_of_ble_eq_true rfl) d_p15m43_2 (fun H locs w => ?_)
  have w : pd_w G s H locs (pd_up h y (20, .inr (10, [.ref (ad 0), .ref (ad 1), .ref (ad 2), .int (iv 3), .int (iv 4), .int (iv 5), .ref (ad 6), .ref (ad 7), .ref (ad 8), .ref (ad 9), .ref (ad 10), .ref (ad 11), .int (iv 12), .ref (ad 13), .ref (ad 14), .ref (ad 15), .ref (ad 16), .ref (ad 17), .ref (ad 18), .ref (ad 19), .int (iv 20), .ref (ad 21), .ref (ad 22), .ref (ad 23), .ref (ad 24), .ref (ad 25), .ref (ad 26), .ref (ad 27), .ref (ad 28), .int (iv 29), .ref (ad 30), .ref (ad 31), .int (iv 32), .int (iv 33), .int (iv 34), .int (nI 0), .long tl, .int (iv 37), .int (iv 38), .int (iv 39), .int (iv 40), .ref (ad 41), .ref (ad 42), .int (iv 43)]))) := w
  obtain ⟨h1, u4⟩ : ∃ z, z = pd_up h y (20, .inr (10, [.ref (ad 0), .ref (ad 1), .ref (ad 2), .int (iv 3), .int (iv 4), .int (iv 5), .ref (ad 6), .ref (ad 7), .ref (ad 8), .ref (ad 9), .ref (ad 10), .ref (ad 11), .int (iv 12), .ref (ad 13), .ref (ad 14), .ref (ad 15), .ref (ad 16), .ref (ad 17), .ref (ad 18), .ref (ad 19), .int (iv 20), .ref (ad 21), .ref (ad 22), .ref (ad 23), .ref (ad 24), .ref (ad 25), .ref (ad 26), .ref (ad 27), .ref (ad 28), .int (iv 29), .ref (ad 30), .ref (ad 31), .int (iv 32), .int (iv 33), .int (iv 34), .int (nI 0), .long tl, .int (iv 37), .int (iv 38), .int (iv 39), .int (iv 40), .ref (ad 41), .ref (ad 42), .int (iv 43)])) := ⟨_, rfl⟩
  rw [← u4] at w
  have k2 : pd_kq y h h1 := by rw [u4]; exact pd_up_kq
  have f3 : h1 y = some (20, .inr (10, [.ref (ad 0), .ref (ad 1), .ref (ad 2), .int (iv 3), .int (iv 4), .int (iv 5), .ref (ad 6), .ref (ad 7), .ref (ad 8), .ref (ad 9), .ref (ad 10), .ref (ad 11), .int (iv 12), .ref (ad 13), .ref (ad 14), .ref (ad 15), .ref (ad 16), .ref (ad 17), .ref (ad 18), .ref (ad 19), .int (iv 20), .ref (ad 21), .ref (ad 22), .ref (ad 23), .ref (ad 24), .ref (ad 25), .ref (ad 26), .ref (ad 27), .ref (ad 28), .int (iv 29), .ref (ad 30), .ref (ad 31), .int (iv 32), .int (iv 33), .int (iv 34), .int (nI 0), .long tl, .int (iv 37), .int (iv 38), .int (iv 39), .int (iv 40), .ref (ad 41), .ref (ad 42), .int (iv 43)])) := by rw [u4]; exact pd_up_s _ _ _
  have f5 := k2 _ _ (pd_ne ha0 hy0 (by simp)) ha0
  have f6 := k2 _ _ (pd_ne ha30 hy0 (by simp)) ha30
  have f7 := k2 _ _ (pd_ne ha31 hy0 (by simp)) ha31
  have hWr0 : gm_Wr (fv 30) (an % 12) [] (fv 30) := ⟨fun i hi => absurd hi (Nat.not_lt_zero i), fun _ _ => rfl⟩
  refine lv_aload_n hx hb d_p15m43_5 rfl (lv_at hl 0 rfl) ?_
  refine lv_aload_n hx hb d_p15m43_6 rfl (lv_at hl 0 rfl) ?_
  refine pd_get X w f3 rfl 32 (by decide) mT_1171 rfl rfl d_p15m43_7 ?_
  refine pd_top (v' := .int (nI an)) (congrArg Value.int hiv32) ?_
  have mo8 : pd_MO G h1 y ad fv (pd_fu iv 35 (nI 0)) tl := pd_MO.of (ts := [20]) hMO (pd_kq.kx (k2) hy0) f3 (fun j hj => Or.inr ⟨fun z => by first | (simp at z; done) | (simp at z; omega), rfl⟩)
  refine pd_cVv (a := y) (As := [.int (nI an)]) (rest := []) X w f3 rfl (c_Mod_digits l G h1 (an := an) (f0 := fv 30) (ws := []) (ad := ad) (fv := fv) (iv := pd_fu iv 35 (nI 0)) (tl := tl) mo8 (by assumption) (by omega) (by first | rfl | assumption) (by assumption) (by omega) (by (try simp only [List.length_append, List.length_cons, List.length_nil, List.length_map, List.length_range, List.length_take]); omega)) ok_Mod_digits ⟨mT_1435, sT_46⟩ mT_1433 ⟨by decide, by decide⟩ rfl hl.1 rfl (Nat.le_of_ble_eq_true rfl) d_p15m43_10 ⟨by decide, by decide⟩ (fun h10 H locs hp11 w => ?_)
  refine W.widen (k := 0) (n := 0) (by decide) (by decide) ?_
  obtain ⟨k12, f13, f14, f15⟩ := hp11
  have f16 := k12 _ _ f5 (show (30 : Nat) ∉ [20, 60] by decide)
  have f17 := k12 _ _ f7 (show (61 : Nat) ∉ [20, 60] by decide)
  have mo18 : pd_MO G h10 y ad (pd_fu fv 30 f13) (pd_fu iv 35 (nI ((gr_dig an).length))) tl := pd_MO.ext f14 (fun j9 hj9 => by by_cases e930 : j9 = 30; subst e930; rfl; simp only [pd_fu, if_neg e930]) rfl
  have hy19 : h10 y = some (20, .inr (10, [.ref (ad 0), .ref (ad 1), .ref (ad 2), .int (iv 3), .int (iv 4), .int (iv 5), .ref (ad 6), .ref (ad 7), .ref (ad 8), .ref (ad 9), .ref (ad 10), .ref (ad 11), .int (iv 12), .ref (ad 13), .ref (ad 14), .ref (ad 15), .ref (ad 16), .ref (ad 17), .ref (ad 18), .ref (ad 19), .int (iv 20), .ref (ad 21), .ref (ad 22), .ref (ad 23), .ref (ad 24), .ref (ad 25), .ref (ad 26), .ref (ad 27), .ref (ad 28), .int (iv 29), .ref (ad 30), .ref (ad 31), .int (iv 32), .int (iv 33), .int (iv 34), .int (nI ((gr_dig an).length)), .long tl, .int (iv 37), .int (iv 38), .int (iv 39), .int (iv 40), .ref (ad 41), .ref (ad 42), .int (iv 43)])) := mo18.1
  have ha20 : h10 (ad 0) = some (30, .inl (.int, 60, .inl (fv 0))) := (mo18.2.2 0 (by decide)).1
  have ha21 : h10 (ad 30) = some (60, .inl (.int, 1152, .inl (f13))) := (mo18.2.2 30 (by decide)).1
  have ha22 : h10 (ad 31) = some (61, .inl (.int, 12, .inl (fv 31))) := (mo18.2.2 31 (by decide)).1
  refine lv_aload_n hx hb d_p15m43_13 rfl (lv_at hl 0 rfl) ?_
  refine lv_bipush (v := nI 32) hx hb d_p15m43_14 (by decide) ?_
  refine pd_cVv (a := y) (As := [.int (nI 32)]) (rest := []) X w hy19 rfl (c_Mod_letter l G h10 (an := an) (f0 := fv 30) (ws := gr_dig an) (ad := ad) (fv := pd_fu fv 30 f13) (iv := pd_fu iv 35 (nI ((gr_dig an).length))) (tl := tl) mo18 (by assumption) (by omega) (by first | rfl | assumption) (by assumption) (by (try simp only [List.length_append, List.length_cons, List.length_nil, List.length_map, List.length_range, List.length_take]); omega)) ok_Mod_letter ⟨mT_1439, sT_47⟩ mT_1437 ⟨by decide, by decide⟩ rfl hl.1 rfl (Nat.le_of_ble_eq_true rfl) d_p15m43_16 ⟨by decide, by decide⟩ (fun h24 H locs hp25 w => ?_)
  refine W.widen (k := 0) (n := 0) (by decide) (by decide) ?_
  obtain ⟨k26, f27, f28, f29⟩ := hp25
  have f30 := k26 _ _ ha20 (show (30 : Nat) ∉ [20, 60] by decide)
  have f31 := k26 _ _ ha22 (show (61 : Nat) ∉ [20, 60] by decide)
  have mo32 : pd_MO G h24 y ad (pd_fu fv 30 f27) (pd_fu iv 35 (nI ((gr_dig an ++ [32]).length))) tl := pd_MO.ext f28 (fun j9 hj9 => by by_cases e930 : j9 = 30; subst e930; rfl; simp only [pd_fu, if_neg e930]) rfl
  have hy33 : h24 y = some (20, .inr (10, [.ref (ad 0), .ref (ad 1), .ref (ad 2), .int (iv 3), .int (iv 4), .int (iv 5), .ref (ad 6), .ref (ad 7), .ref (ad 8), .ref (ad 9), .ref (ad 10), .ref (ad 11), .int (iv 12), .ref (ad 13), .ref (ad 14), .ref (ad 15), .ref (ad 16), .ref (ad 17), .ref (ad 18), .ref (ad 19), .int (iv 20), .ref (ad 21), .ref (ad 22), .ref (ad 23), .ref (ad 24), .ref (ad 25), .ref (ad 26), .ref (ad 27), .ref (ad 28), .int (iv 29), .ref (ad 30), .ref (ad 31), .int (iv 32), .int (iv 33), .int (iv 34), .int (nI ((gr_dig an ++ [32]).length)), .long tl, .int (iv 37), .int (iv 38), .int (iv 39), .int (iv 40), .ref (ad 41), .ref (ad 42), .int (iv 43)])) := mo32.1
  have ha34 : h24 (ad 0) = some (30, .inl (.int, 60, .inl (fv 0))) := (mo32.2.2 0 (by decide)).1
  have ha35 : h24 (ad 30) = some (60, .inl (.int, 1152, .inl (f27))) := (mo32.2.2 30 (by decide)).1
  have ha36 : h24 (ad 31) = some (61, .inl (.int, 12, .inl (fv 31))) := (mo32.2.2 31 (by decide)).1
  refine lv_iconst (v := nI 0) hx hb d_p15m43_19 (by decide) ?_
  refine lv_istore_n (lv' := [(2, .int (nI 0)), (0, .ref y), (1, .int ans)]) hx hb d_p15m43_20 rfl hl (by decide) rfl (fun ls hl => ?_)
  exact lp_Mod_write_21 l G h hMO hL hA hiv32 han hans X hmn (cs.length + 1) 0 f27 h24 (by omega) (pd_kx.mono (us := [20, 60, 61]) (pd_kx.tr (pd_kx.tr (pd_kx.mono (us := [20, 60]) (pd_kq.kx (k2) hy0) (by simp)) (k12)) (k26)) (by simp)) (by rw [List.take_zero, List.append_nil]; exact mo32) (by rw [List.take_zero, List.append_nil]; exact f29) (by omega) _ _ w ls (lv_sub hl [0, 1, 2] rfl)
