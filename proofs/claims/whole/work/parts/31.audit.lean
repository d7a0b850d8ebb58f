/-! THE AUDIT -/
theorem pd_MF.of {l : Launch} {y : MethodName} {b : ByteArray} {maxL : Nat} {ret : Option FieldType} {rm : Room} {G : pd_G} {h : pd_H} {As : List Value} {α : Type} {mk : α → Value} {post : α → pd_H → Prop} (hy : plainFor y = true) (hn : (lg_sl As).length ≤ maxL)
    (body : ∀ (p : Program) (e : Env) (s : State) (m : MethodId) (below : List Frame) (meth : Method) (c : Code), pd_B p s m As.toArray meth c G y.cls b maxL ret → meth.name = y.name → pd_w G s s.heap [] h → ∀ ls : Array Slot, lv_has ls maxL (lv_args 0 As) →
      W p l e rm s m As.toArray below meth c s.heap [] 0 0 (MQ below (pd_Q G mk post) As.toArray s rm.cells rm.slots (fun q => G.2.1 ≤ q)) (F0 m 0 ls [])) : pd_M l y b maxL ret rm G h As mk post := by
  refine va_MetF (cc := b) (maxL := maxL) (ret := ret) hy rfl ?_
  intro p e s m args below meth c s₁ B hml hv
  obtain ⟨rfl, hE, hR, hK⟩ := hv
  have hts := atoms_spec (ws := .code y b maxL ret :: pd_T) B.pre
  have hl := lv_entry As (n := maxL) hn
  rw [lg_entry_eq]
  exact body p e s m below meth c ⟨B.exec, B.bytes, B.returns, hml, findClass_of_methodNamed B.named, fun w hw => hts w (List.mem_cons_of_mem _ hw), B.notSynchronized, hE⟩ (name_of_methodNamed B.named B.method).1 ⟨hR, hK, va_S.rf⟩ _ hl
theorem pd_tout {x : Int32} {lo hi : Int} (hb : -2147483648 ≤ lo ∧ hi < 2147483648) (h : ∀ j : Int, lo ≤ j → j ≤ hi → ¬ x = Int32.ofInt j) : x.toInt < lo ∨ hi < x.toInt := by
  by_cases h1 : x.toInt < lo
  · exact Or.inl h1
  · by_cases h2 : hi < x.toInt
    · exact Or.inr h2
    · exact absurd (by rw [Int32.ofInt_toInt]) (h x.toInt (by omega) (by omega))
theorem fm_1 : ∀ t, t < 24 → 0 ≤ ((nI t - nI 12) ^^^ nI 12) → (nI t - nI 12) - (nI t - nI 12) / nI 12 * nI 12 = nI (t % 12) := by decide +kernel
theorem fm_2 : ∀ t, t < 24 → (nI t - nI 12) - (nI t - nI 12) / nI 12 * nI 12 = 0 → (nI t - nI 12) - (nI t - nI 12) / nI 12 * nI 12 = nI (t % 12) := by decide +kernel
theorem fm_3 : ∀ t, t < 24 → ¬ 0 ≤ ((nI t - nI 12) ^^^ nI 12) → ¬ (nI t - nI 12) - (nI t - nI 12) / nI 12 * nI 12 = 0 → ((nI t - nI 12) - (nI t - nI 12) / nI 12 * nI 12) + nI 12 = nI (t % 12) := by decide +kernel
theorem fm_k : ∀ n, n < 12 → ∀ k, k < 12 → nI n - nI 1 - nI k = nI (n + 11 - k) - nI 12 := by decide +kernel
/-- what an answer is -/
def gr_aok (a : Int32) : Prop := a = -2 ∨ a = -4 ∨ a = -6 ∨ a = -7 ∨ (∃ n, n < 1000 ∧ a = nI n) ∨ ∃ n, n < 24 ∧ a = nI (10000 + n)
def gr_ow (a : Int32) : List Nat := if a = -7 then [100, 101, 110, 105, 101, 100] else if a = -6 then [102, 111, 114, 98, 105, 100, 100, 101, 110] else if a = -4 then [107, 105, 110, 100] else if a = -2 then [117, 110, 107, 110, 111, 119, 110] else if a < nI 10000 then [111, 107, 32] else [115, 104, 105, 109, 32]
def gr_od (a : Int32) : List Nat := if a < nI 10000 then (if a < 0 then [] else gr_dig a.toNatClampNeg) else gr_dig (a - nI 10000).toNatClampNeg
theorem gr_ow_len (a : Int32) : (gr_ow a).length ≤ 9 := by
  unfold gr_ow
  split
  · decide
  · split
    · decide
    · split
      · decide
      · split
        · decide
        · split <;> decide
/-- the text of an ask -/
def gr_atx (n : Nat) (cs : List Nat) (a : Int32) : List Nat := gr_dig n ++ [32] ++ cs ++ [32] ++ gr_ow a ++ gr_od a
theorem gr_aok_s {a : Int32} (h : gr_aok a) (q : ¬ a < nI 10000) : ∃ n, n < 24 ∧ a = nI (10000 + n) := by
  rcases h with rfl | rfl | rfl | rfl | ⟨n, hn, rfl⟩ | h
  · exact absurd (by decide) q
  · exact absurd (by decide) q
  · exact absurd (by decide) q
  · exact absurd (by decide) q
  · exact absurd (nI_lt (by omega) (by decide)) q
  · exact h
theorem gr_aok_p {a : Int32} (h : gr_aok a) (q : a < nI 10000) (q2 : ¬ a < 0) : ∃ n, n < 1000 ∧ a = nI n := by
  rcases h with rfl | rfl | rfl | rfl | h | ⟨n, hn, rfl⟩
  · exact absurd (by decide) q2
  · exact absurd (by decide) q2
  · exact absurd (by decide) q2
  · exact absurd (by decide) q2
  · exact h
  · exact absurd q (nI_nlt (by omega) (by omega))
theorem gr_od_s {n : Nat} (hn : n < 24) : gr_od (nI (10000 + n)) = gr_dig n := by
  unfold gr_od
  rw [if_neg (nI_nlt (by omega) (by omega)), pk_sub (by omega), nI_clamp (by omega), show 10000 + n - 10000 = n by omega]
theorem gr_od_p {n : Nat} (hn : n < 1000) : gr_od (nI n) = gr_dig n := by
  unfold gr_od
  rw [if_pos (nI_lt (by omega) (by decide)), if_neg (nI_pos (by omega)), nI_clamp (by omega)]
theorem gr_od_n {a : Int32} (q : a < 0) (q2 : a < nI 10000) : gr_od a = [] := by
  unfold gr_od
  rw [if_pos q2, if_pos q]
def pd_Aud (G : pd_G) (h : pd_H) (x : Nat) (T : Nat → List Nat) (kp nx : Nat) : Prop := ∃ (le ln dr : Nat) (f g : Nat → Int32) (ds : List Nat), h x = some (15, .inr (1, [.ref le, .ref ln, .ref dr, .int (nI kp), .int (nI nx)])) ∧ h le = some (16, .inl (.char, 1152, .inl f)) ∧ h ln = some (17, .inl (.int, 12, .inl g)) ∧ pd_SB G h dr 3 4 ds ∧ (∀ r, r < 12 → g r = nI (T r).length ∧ (T r).length ≤ 96 ∧ ∀ i, i < (T r).length → f (r * 96 + i) = nI ((T r).getD i 0)) ∧ kp ≤ 12 ∧ nx < 12 ∧ G.2.1 ≤ x ∧ G.2.1 ≤ le ∧ G.2.1 ≤ ln
theorem pd_Aud.kx {G : pd_G} {ts : List Nat} {h h' : pd_H} {x kp nx : Nat} {T : Nat → List Nat} (q : pd_Aud G h x T kp nx) (k : pd_kx ts h h') (n15 : 15 ∉ ts) (n16 : 16 ∉ ts) (n17 : 17 ∉ ts) (n3 : 3 ∉ ts) (n4 : 4 ∉ ts) : pd_Aud G h' x T kp nx := by
  obtain ⟨le, ln, dr, f, g, ds, h1, h2, h3, h4, h5⟩ := q
  exact ⟨le, ln, dr, f, g, ds, k _ _ h1 n15, k _ _ h2 n16, k _ _ h3 n17, h4.kx k n3 n4, h5⟩
theorem pd_ix_neg {n : Nat} {c : Int32} (h : c < 0) : pd_ix n c = none := if_pos h
theorem pd_ix_ge {n : Nat} {c : Int32} (h : ¬ c < 0) (h2 : ¬ c < nI n) : pd_ix n c = none := by
  unfold pd_ix
  rw [if_neg h, if_neg h2]
theorem pd_ix_in {n : Nat} {c : Int32} (h : ¬ c < 0) (h2 : c < nI n) : pd_ix n c = some c.toNatClampNeg := by
  unfold pd_ix
  rw [if_neg h, if_pos h2]
def gr_lat (T : Nat → List Nat) (kp nx : Nat) (k0 i0 : Int32) : Int32 := match pd_ix kp k0 with
  | none => -2
  | some k => match pd_ix (T ((nx + 11 - k) % 12)).length i0 with
    | none => -2
    | some i => nI ((T ((nx + 11 - k) % 12)).getD i 0)
theorem d_p23m50_0 : decode prog_23_method_50_code 0 = .ok (.iload_n 0, 1) := by decide +kernel
theorem d_p23m50_1 : decode prog_23_method_50_code 1 = .ok (.iload_n 1, 1) := by decide +kernel
theorem d_p23m50_2 : decode prog_23_method_50_code 2 = .ok (.irem, 1) := by decide +kernel
theorem d_p23m50_3 : decode prog_23_method_50_code 3 = .ok (.istore_n 2, 1) := by decide +kernel
theorem d_p23m50_4 : decode prog_23_method_50_code 4 = .ok (.iload_n 0, 1) := by decide +kernel
theorem d_p23m50_5 : decode prog_23_method_50_code 5 = .ok (.iload_n 1, 1) := by decide +kernel
theorem d_p23m50_6 : decode prog_23_method_50_code 6 = .ok (.ixor, 1) := by decide +kernel
theorem d_p23m50_7 : decode prog_23_method_50_code 7 = .ok (.ifCond .ge 11, 3) := by decide +kernel
theorem d_p23m50_10 : decode prog_23_method_50_code 10 = .ok (.iload_n 2, 1) := by decide +kernel
theorem d_p23m50_11 : decode prog_23_method_50_code 11 = .ok (.ifCond .eq 7, 3) := by decide +kernel
theorem d_p23m50_14 : decode prog_23_method_50_code 14 = .ok (.iload_n 2, 1) := by decide +kernel
theorem d_p23m50_15 : decode prog_23_method_50_code 15 = .ok (.iload_n 1, 1) := by decide +kernel
theorem d_p23m50_16 : decode prog_23_method_50_code 16 = .ok (.iadd, 1) := by decide +kernel
theorem d_p23m50_17 : decode prog_23_method_50_code 17 = .ok (.ireturn, 1) := by decide +kernel
theorem d_p23m50_18 : decode prog_23_method_50_code 18 = .ok (.iload_n 2, 1) := by decide +kernel
theorem d_p23m50_19 : decode prog_23_method_50_code 19 = .ok (.ireturn, 1) := by decide +kernel
abbrev y_Math_floorMod : MethodName := ⟨"java/lang/Math", "floorMod", "(II)I"⟩
theorem ok_Math_floorMod : pd_ok y_Math_floorMod prog_23_method_50_code 3 (some .int) 2 := ⟨mT_1112, mT_15, by decide, by decide +kernel⟩
abbrev rm_Math_floorMod : Room := { frames := 0, cells := 0, slots := 0, locals := 0 }
set_option maxHeartbeats 4000000 in
set_option maxRecDepth 100000 in
theorem c_Math_floorMod (l : Launch) (G : pd_G) (h : pd_H) {t : Nat} (ht : t < 24) : pd_M l y_Math_floorMod prog_23_method_50_code 3 (some .int) rm_Math_floorMod G h [.int (nI t - nI 12), .int (nI 12)] Value.int (fun r h1 => r = nI (t % 12) ∧ h = h1) := by
  refine pd_MF.of (by decide +kernel) (Nat.le_of_ble_eq_true rfl) ?_
  intro p e s m below meth c X hmn w ls hl
  have hx := X.1
  have hb := X.2.1
  have hl : lv_has ls 3 [(0, .int (nI t - nI 12)), (1, .int (nI 12))] := hl
  refine lv_iload_n hx hb d_p23m50_0 rfl (lv_at hl 0 rfl) ?_
  refine lv_iload_n hx hb d_p23m50_1 rfl (lv_at hl 1 rfl) ?_
  refine lv_irem hx hb d_p23m50_2 (by decide) ?_
  refine lv_istore_n (lv' := [(2, .int ((nI t - nI 12) - (nI t - nI 12) / (nI 12) * (nI 12))), (0, .int (nI t - nI 12)), (1, .int (nI 12))]) hx hb d_p23m50_3 rfl hl (by decide) rfl (fun ls hl => ?_)
  refine lv_iload_n hx hb d_p23m50_4 rfl (lv_at hl 1 rfl) ?_
  refine lv_iload_n hx hb d_p23m50_5 rfl (lv_at hl 2 rfl) ?_
  refine lv_ixor hx hb d_p23m50_6 ?_
  refine lv_if_ge (tgt := 18) hx hb d_p23m50_7 (by decide) (fun q1 => ?_) (fun q1 => ?_)
  · -- taken: 18
    refine lv_iload_n hx hb d_p23m50_18 rfl (lv_at hl 0 rfl) ?_
    exact pd_iret (v := ((nI t - nI 12) - (nI t - nI 12) / (nI 12) * (nI 12))) X w ⟨fm_1 t ht q1, rfl⟩ (by decide) (by decide) d_p23m50_19
  · -- not taken: 10
    refine lv_iload_n hx hb d_p23m50_10 rfl (lv_at hl 0 rfl) ?_
    refine lv_if_eq (tgt := 18) hx hb d_p23m50_11 (by decide) (fun q2 => ?_) (fun q2 => ?_)
    · -- taken: 18
      refine lv_iload_n hx hb d_p23m50_18 rfl (lv_at hl 0 rfl) ?_
      exact pd_iret (v := ((nI t - nI 12) - (nI t - nI 12) / (nI 12) * (nI 12))) X w ⟨fm_2 t ht q2, rfl⟩ (by decide) (by decide) d_p23m50_19
    · -- not taken: 14
      refine lv_iload_n hx hb d_p23m50_14 rfl (lv_at hl 0 rfl) ?_
      refine lv_iload_n hx hb d_p23m50_15 rfl (lv_at hl 2 rfl) ?_
      refine lv_iadd hx hb d_p23m50_16 ?_
      exact pd_iret (v := (((nI t - nI 12) - (nI t - nI 12) / (nI 12) * (nI 12)) + (nI 12))) X w ⟨fm_3 t ht q1 q2, rfl⟩ (by decide) (by decide) d_p23m50_17
theorem d_p3m3_0 : decode prog_3_method_3_code 0 = .ok (.iload_n 0, 1) := by decide +kernel
theorem d_p3m3_1 : decode prog_3_method_3_code 1 = .ok (.tableswitch 51 (-7) (-2) #[48, 45, 51, 42, 51, 39], 39) := by decide +kernel
theorem d_p3m3_40 : decode prog_3_method_3_code 40 = .ok (.ldc 65, 2) := by decide +kernel
theorem d_p3m3_42 : decode prog_3_method_3_code 42 = .ok (.areturn, 1) := by decide +kernel
theorem d_p3m3_43 : decode prog_3_method_3_code 43 = .ok (.ldc 67, 2) := by decide +kernel
theorem d_p3m3_45 : decode prog_3_method_3_code 45 = .ok (.areturn, 1) := by decide +kernel
theorem d_p3m3_46 : decode prog_3_method_3_code 46 = .ok (.ldc 69, 2) := by decide +kernel
theorem d_p3m3_48 : decode prog_3_method_3_code 48 = .ok (.areturn, 1) := by decide +kernel
theorem d_p3m3_49 : decode prog_3_method_3_code 49 = .ok (.ldc 71, 2) := by decide +kernel
theorem d_p3m3_51 : decode prog_3_method_3_code 51 = .ok (.areturn, 1) := by decide +kernel
theorem d_p3m3_52 : decode prog_3_method_3_code 52 = .ok (.iload_n 0, 1) := by decide +kernel
theorem d_p3m3_53 : decode prog_3_method_3_code 53 = .ok (.sipush 10000, 3) := by decide +kernel
theorem d_p3m3_56 : decode prog_3_method_3_code 56 = .ok (.if_icmp .lt 8, 3) := by decide +kernel
theorem d_p3m3_59 : decode prog_3_method_3_code 59 = .ok (.ldc 73, 2) := by decide +kernel
theorem d_p3m3_61 : decode prog_3_method_3_code 61 = .ok (.goto 5, 3) := by decide +kernel
theorem d_p3m3_64 : decode prog_3_method_3_code 64 = .ok (.ldc 75, 2) := by decide +kernel
theorem d_p3m3_66 : decode prog_3_method_3_code 66 = .ok (.areturn, 1) := by decide +kernel
abbrev y_Audit_outcomeOf : MethodName := ⟨"PolicyDesk$Audit", "outcomeOf", "(I)Ljava/lang/String;"⟩
theorem ok_Audit_outcomeOf : pd_ok y_Audit_outcomeOf prog_3_method_3_code 1 (some (.object "java/lang/String")) 1 := ⟨mT_1055, mT_20, by decide, by decide +kernel⟩
abbrev rm_Audit_outcomeOf : Room := { frames := 0, cells := 0, slots := 0, locals := 0 }
set_option maxHeartbeats 4000000 in
set_option maxRecDepth 100000 in
theorem c_Audit_outcomeOf (l : Launch) (G : pd_G) (h : pd_H) {ans : Int32} : pd_M l y_Audit_outcomeOf prog_3_method_3_code 1 (some (.object "java/lang/String")) rm_Audit_outcomeOf G h [.int ans] Value.ref (fun r h1 => pd_kx [] h h1 ∧ ∃ ds, ds = gr_ow ans ∧ pd_Str h1 r ds) := by
  refine pd_M.of (by decide) (Nat.le_of_ble_eq_true rfl) ?_
  intro p e s m below meth c X hmn w ls hl
  have hx := X.1
  have hb := X.2.1
  have hl : lv_has ls 1 [(0, .int ans)] := hl
  refine lv_iload_n hx hb d_p3m3_0 rfl (lv_at hl 0 rfl) ?_
  by_cases z2 : ans = (-7)
  · -- case -7: 49
    refine lv_tableIn (tgt := 49) hx hb d_p3m3_1 (by rw [z2]; decide) (by rw [z2]; decide) (by rw [z2]; rfl) (by decide) ?_
    refine pd_ldc X (List.mem_of_getElem? (i := 23) rfl) d_p3m3_49 ?_
    have L3 : pd_Str h (G.2.2.2 63) [100, 101, 110, 105, 101, 100] := pd_litS X w 23 (by decide)
    obtain ⟨v4, g5, f6, f7, gf8, gc9, gl10⟩ := id L3
    exact pd_aret (v := (G.2.2.2 63)) X (Or.inl ⟨_, rfl⟩) w ⟨pd_kx.rf, _, (by unfold gr_ow; rw [if_pos z2]), by assumption⟩ (by decide) (by decide) d_p3m3_51
  by_cases z11 : ans = (-6)
  · -- case -6: 46
    refine lv_tableIn (tgt := 46) hx hb d_p3m3_1 (by rw [z11]; decide) (by rw [z11]; decide) (by rw [z11]; rfl) (by decide) ?_
    refine pd_ldc X (List.mem_of_getElem? (i := 22) rfl) d_p3m3_46 ?_
    have L12 : pd_Str h (G.2.2.2 62) [102, 111, 114, 98, 105, 100, 100, 101, 110] := pd_litS X w 22 (by decide)
    obtain ⟨v13, g14, f15, f16, gf17, gc18, gl19⟩ := id L12
    exact pd_aret (v := (G.2.2.2 62)) X (Or.inl ⟨_, rfl⟩) w ⟨pd_kx.rf, _, (by unfold gr_ow; rw [if_neg (by rw [z11]; decide), if_pos z11]), by assumption⟩ (by decide) (by decide) d_p3m3_48
  by_cases z20 : ans = (-5)
  · -- case -5: 52
    refine lv_tableIn (tgt := 52) hx hb d_p3m3_1 (by rw [z20]; decide) (by rw [z20]; decide) (by rw [z20]; rfl) (by decide) ?_
    refine lv_iload_n hx hb d_p3m3_52 rfl (lv_at hl 0 rfl) ?_
    refine lv_sipush (v := nI 10000) hx hb d_p3m3_53 (by decide) ?_
    refine lv_icmp_lt (tgt := 64) hx hb d_p3m3_56 (by decide) (fun q21 => ?_) (fun q21 => ?_)
    · -- taken: 64
      refine pd_ldc X (List.mem_of_getElem? (i := 25) rfl) d_p3m3_64 ?_
      have L22 : pd_Str h (G.2.2.2 65) [111, 107, 32] := pd_litS X w 25 (by decide)
      obtain ⟨v23, g24, f25, f26, gf27, gc28, gl29⟩ := id L22
      exact pd_aret (v := (G.2.2.2 65)) X (Or.inl ⟨_, rfl⟩) w ⟨pd_kx.rf, _, (by unfold gr_ow; rw [if_neg (by rw [z20]; decide), if_neg (by rw [z20]; decide), if_neg (by rw [z20]; decide), if_neg (by rw [z20]; decide), if_pos q21]), by assumption⟩ (by decide) (by decide) d_p3m3_66
    · -- not taken: 59
      refine pd_ldc X (List.mem_of_getElem? (i := 24) rfl) d_p3m3_59 ?_
      have L30 : pd_Str h (G.2.2.2 64) [115, 104, 105, 109, 32] := pd_litS X w 24 (by decide)
      obtain ⟨v31, g32, f33, f34, gf35, gc36, gl37⟩ := id L30
      refine lv_goto (tgt := 66) hx hb d_p3m3_61 (by decide) ?_
      exact pd_aret (v := (G.2.2.2 64)) X (Or.inl ⟨_, rfl⟩) w ⟨pd_kx.rf, _, (by unfold gr_ow; rw [if_neg (by rw [z20]; decide), if_neg (by rw [z20]; decide), if_neg (by rw [z20]; decide), if_neg (by rw [z20]; decide), if_neg q21]), by assumption⟩ (by decide) (by decide) d_p3m3_66
  by_cases z38 : ans = (-4)
  · -- case -4: 43
    refine lv_tableIn (tgt := 43) hx hb d_p3m3_1 (by rw [z38]; decide) (by rw [z38]; decide) (by rw [z38]; rfl) (by decide) ?_
    refine pd_ldc X (List.mem_of_getElem? (i := 21) rfl) d_p3m3_43 ?_
    have L39 : pd_Str h (G.2.2.2 61) [107, 105, 110, 100] := pd_litS X w 21 (by decide)
    obtain ⟨v40, g41, f42, f43, gf44, gc45, gl46⟩ := id L39
    exact pd_aret (v := (G.2.2.2 61)) X (Or.inl ⟨_, rfl⟩) w ⟨pd_kx.rf, _, (by unfold gr_ow; rw [if_neg (by rw [z38]; decide), if_neg (by rw [z38]; decide), if_pos z38]), by assumption⟩ (by decide) (by decide) d_p3m3_45
  by_cases z47 : ans = (-3)
  · -- case -3: 52
    refine lv_tableIn (tgt := 52) hx hb d_p3m3_1 (by rw [z47]; decide) (by rw [z47]; decide) (by rw [z47]; rfl) (by decide) ?_
    refine lv_iload_n hx hb d_p3m3_52 rfl (lv_at hl 0 rfl) ?_
    refine lv_sipush (v := nI 10000) hx hb d_p3m3_53 (by decide) ?_
    refine lv_icmp_lt (tgt := 64) hx hb d_p3m3_56 (by decide) (fun q48 => ?_) (fun q48 => ?_)
    · -- taken: 64
      refine pd_ldc X (List.mem_of_getElem? (i := 25) rfl) d_p3m3_64 ?_
      have L49 : pd_Str h (G.2.2.2 65) [111, 107, 32] := pd_litS X w 25 (by decide)
      obtain ⟨v50, g51, f52, f53, gf54, gc55, gl56⟩ := id L49
      exact pd_aret (v := (G.2.2.2 65)) X (Or.inl ⟨_, rfl⟩) w ⟨pd_kx.rf, _, (by unfold gr_ow; rw [if_neg (by rw [z47]; decide), if_neg (by rw [z47]; decide), if_neg (by rw [z47]; decide), if_neg (by rw [z47]; decide), if_pos q48]), by assumption⟩ (by decide) (by decide) d_p3m3_66
    · -- not taken: 59
      refine pd_ldc X (List.mem_of_getElem? (i := 24) rfl) d_p3m3_59 ?_
      have L57 : pd_Str h (G.2.2.2 64) [115, 104, 105, 109, 32] := pd_litS X w 24 (by decide)
      obtain ⟨v58, g59, f60, f61, gf62, gc63, gl64⟩ := id L57
      refine lv_goto (tgt := 66) hx hb d_p3m3_61 (by decide) ?_
      exact pd_aret (v := (G.2.2.2 64)) X (Or.inl ⟨_, rfl⟩) w ⟨pd_kx.rf, _, (by unfold gr_ow; rw [if_neg (by rw [z47]; decide), if_neg (by rw [z47]; decide), if_neg (by rw [z47]; decide), if_neg (by rw [z47]; decide), if_neg q48]), by assumption⟩ (by decide) (by decide) d_p3m3_66
  by_cases z65 : ans = (-2)
  · -- case -2: 40
    refine lv_tableIn (tgt := 40) hx hb d_p3m3_1 (by rw [z65]; decide) (by rw [z65]; decide) (by rw [z65]; rfl) (by decide) ?_
    refine pd_ldc X (List.mem_of_getElem? (i := 20) rfl) d_p3m3_40 ?_
    have L66 : pd_Str h (G.2.2.2 60) [117, 110, 107, 110, 111, 119, 110] := pd_litS X w 20 (by decide)
    obtain ⟨v67, g68, f69, f70, gf71, gc72, gl73⟩ := id L66
    exact pd_aret (v := (G.2.2.2 60)) X (Or.inl ⟨_, rfl⟩) w ⟨pd_kx.rf, _, (by unfold gr_ow; rw [if_neg (by rw [z65]; decide), if_neg (by rw [z65]; decide), if_neg (by rw [z65]; decide), if_pos z65]), by assumption⟩ (by decide) (by decide) d_p3m3_42
  refine lv_tableOut (tgt := 52) hx hb d_p3m3_1 (pd_tout (lo := -7) (hi := -2) (by decide) (by intro j h1 h2; rcases (show j = -7 ∨ j = -6 ∨ j = -5 ∨ j = -4 ∨ j = -3 ∨ j = -2 by omega) with q | q | q | q | q | q <;> subst q; exact fun e9 => z2 (e9.trans (by decide)); exact fun e9 => z11 (e9.trans (by decide)); exact fun e9 => z20 (e9.trans (by decide)); exact fun e9 => z38 (e9.trans (by decide)); exact fun e9 => z47 (e9.trans (by decide)); exact fun e9 => z65 (e9.trans (by decide)))) (by decide) ?_
  refine lv_iload_n hx hb d_p3m3_52 rfl (lv_at hl 0 rfl) ?_
  refine lv_sipush (v := nI 10000) hx hb d_p3m3_53 (by decide) ?_
  refine lv_icmp_lt (tgt := 64) hx hb d_p3m3_56 (by decide) (fun q74 => ?_) (fun q74 => ?_)
  · -- taken: 64
    refine pd_ldc X (List.mem_of_getElem? (i := 25) rfl) d_p3m3_64 ?_
    have L75 : pd_Str h (G.2.2.2 65) [111, 107, 32] := pd_litS X w 25 (by decide)
    obtain ⟨v76, g77, f78, f79, gf80, gc81, gl82⟩ := id L75
    exact pd_aret (v := (G.2.2.2 65)) X (Or.inl ⟨_, rfl⟩) w ⟨pd_kx.rf, _, (by unfold gr_ow; rw [if_neg z2, if_neg z11, if_neg z38, if_neg z65, if_pos q74]), by assumption⟩ (by decide) (by decide) d_p3m3_66
  · -- not taken: 59
    refine pd_ldc X (List.mem_of_getElem? (i := 24) rfl) d_p3m3_59 ?_
    have L83 : pd_Str h (G.2.2.2 64) [115, 104, 105, 109, 32] := pd_litS X w 24 (by decide)
    obtain ⟨v84, g85, f86, f87, gf88, gc89, gl90⟩ := id L83
    refine lv_goto (tgt := 66) hx hb d_p3m3_61 (by decide) ?_
    exact pd_aret (v := (G.2.2.2 64)) X (Or.inl ⟨_, rfl⟩) w ⟨pd_kx.rf, _, (by unfold gr_ow; rw [if_neg z2, if_neg z11, if_neg z38, if_neg z65, if_neg q74]), by assumption⟩ (by decide) (by decide) d_p3m3_66
theorem d_p3m4_0 : decode prog_3_method_4_code 0 = .ok (.iload_n 1, 1) := by decide +kernel
theorem d_p3m4_1 : decode prog_3_method_4_code 1 = .ok (.ifCond .lt 11, 3) := by decide +kernel
theorem d_p3m4_4 : decode prog_3_method_4_code 4 = .ok (.iload_n 1, 1) := by decide +kernel
theorem d_p3m4_5 : decode prog_3_method_4_code 5 = .ok (.aload_n 0, 1) := by decide +kernel
theorem d_p3m4_6 : decode prog_3_method_4_code 6 = .ok (.getfield 62, 3) := by decide +kernel
theorem d_p3m4_9 : decode prog_3_method_4_code 9 = .ok (.if_icmp .lt 6, 3) := by decide +kernel
theorem d_p3m4_12 : decode prog_3_method_4_code 12 = .ok (.bipush (-2), 2) := by decide +kernel
theorem d_p3m4_14 : decode prog_3_method_4_code 14 = .ok (.ireturn, 1) := by decide +kernel
theorem d_p3m4_15 : decode prog_3_method_4_code 15 = .ok (.aload_n 0, 1) := by decide +kernel
theorem d_p3m4_16 : decode prog_3_method_4_code 16 = .ok (.getfield 44, 3) := by decide +kernel
theorem d_p3m4_19 : decode prog_3_method_4_code 19 = .ok (.iconst 1, 1) := by decide +kernel
theorem d_p3m4_20 : decode prog_3_method_4_code 20 = .ok (.isub, 1) := by decide +kernel
theorem d_p3m4_21 : decode prog_3_method_4_code 21 = .ok (.iload_n 1, 1) := by decide +kernel
theorem d_p3m4_22 : decode prog_3_method_4_code 22 = .ok (.isub, 1) := by decide +kernel
theorem d_p3m4_23 : decode prog_3_method_4_code 23 = .ok (.bipush 12, 2) := by decide +kernel
theorem d_p3m4_25 : decode prog_3_method_4_code 25 = .ok (.invokestatic 77, 3) := by decide +kernel
theorem d_p3m4_28 : decode prog_3_method_4_code 28 = .ok (.istore_n 3, 1) := by decide +kernel
theorem d_p3m4_29 : decode prog_3_method_4_code 29 = .ok (.iload_n 2, 1) := by decide +kernel
theorem d_p3m4_30 : decode prog_3_method_4_code 30 = .ok (.ifCond .lt 13, 3) := by decide +kernel
theorem d_p3m4_33 : decode prog_3_method_4_code 33 = .ok (.iload_n 2, 1) := by decide +kernel
theorem d_p3m4_34 : decode prog_3_method_4_code 34 = .ok (.aload_n 0, 1) := by decide +kernel
theorem d_p3m4_35 : decode prog_3_method_4_code 35 = .ok (.getfield 15, 3) := by decide +kernel
theorem d_p3m4_38 : decode prog_3_method_4_code 38 = .ok (.iload_n 3, 1) := by decide +kernel
theorem d_p3m4_39 : decode prog_3_method_4_code 39 = .ok (.iaload, 1) := by decide +kernel
theorem d_p3m4_40 : decode prog_3_method_4_code 40 = .ok (.if_icmp .lt 8, 3) := by decide +kernel
theorem d_p3m4_43 : decode prog_3_method_4_code 43 = .ok (.bipush (-2), 2) := by decide +kernel
theorem d_p3m4_45 : decode prog_3_method_4_code 45 = .ok (.goto 14, 3) := by decide +kernel
theorem d_p3m4_48 : decode prog_3_method_4_code 48 = .ok (.aload_n 0, 1) := by decide +kernel
theorem d_p3m4_49 : decode prog_3_method_4_code 49 = .ok (.getfield 11, 3) := by decide +kernel
theorem d_p3m4_52 : decode prog_3_method_4_code 52 = .ok (.iload_n 3, 1) := by decide +kernel
theorem d_p3m4_53 : decode prog_3_method_4_code 53 = .ok (.bipush 96, 2) := by decide +kernel
theorem d_p3m4_55 : decode prog_3_method_4_code 55 = .ok (.imul, 1) := by decide +kernel
theorem d_p3m4_56 : decode prog_3_method_4_code 56 = .ok (.iload_n 2, 1) := by decide +kernel
theorem d_p3m4_57 : decode prog_3_method_4_code 57 = .ok (.iadd, 1) := by decide +kernel
theorem d_p3m4_58 : decode prog_3_method_4_code 58 = .ok (.caload, 1) := by decide +kernel
theorem d_p3m4_59 : decode prog_3_method_4_code 59 = .ok (.ireturn, 1) := by decide +kernel
abbrev y_Audit_letterAt : MethodName := ⟨"PolicyDesk$Audit", "letterAt", "(II)I"⟩
theorem ok_Audit_letterAt : pd_ok y_Audit_letterAt prog_3_method_4_code 4 (some .int) 2 := ⟨mT_1109, mT_20, by decide, by decide +kernel⟩
abbrev rm_Audit_letterAt : Room := { frames := 1, cells := 0, slots := 0, locals := 22 }
set_option maxHeartbeats 4000000 in
set_option maxRecDepth 100000 in
theorem c_Audit_letterAt (l : Launch) (G : pd_G) (h : pd_H) {x : Nat} {T : Nat → List Nat} {kp nx : Nat} {k0 i0 : Int32} (hA : pd_Aud G h x T kp nx) : pd_M l y_Audit_letterAt prog_3_method_4_code 4 (some .int) rm_Audit_letterAt G h [.ref x, .int k0, .int i0] Value.int (fun r h1 => r = gr_lat T kp nx k0 i0 ∧ h = h1) := by
  refine pd_M.of (by decide) (Nat.le_of_ble_eq_true rfl) ?_
  intro p e s m below meth c X hmn w ls hl
  have hx := X.1
  have hb := X.2.1
  have hl : lv_has ls 4 [(0, .ref x), (1, .int k0), (2, .int i0)] := hl
  obtain ⟨le, ln, dr, f, g, ds0, hx0, hle, hln, hsb, hT, hkp, hnx, hz_x, hz_le, hz_ln⟩ := id hA
  have ht43 : (4 : Nat) ≠ 3 := by decide
  have ht30 : (3 : Nat) ≠ 0 := by decide
  have ht40 : (4 : Nat) ≠ 0 := by decide
  refine lv_iload_n hx hb d_p3m4_0 rfl (lv_at hl 1 rfl) ?_
  refine lv_if_lt (tgt := 12) hx hb d_p3m4_1 (by decide) (fun q1 => ?_) (fun q1 => ?_)
  · -- taken: 12
    refine lv_bipush (v := -2) hx hb d_p3m4_12 (by decide) ?_
    exact pd_iret (v := (-2)) X w ⟨by simp only [gr_lat, pd_ix_neg q1], rfl⟩ (by decide) (by decide) d_p3m4_14
  · -- not taken: 4
    refine lv_iload_n hx hb d_p3m4_4 rfl (lv_at hl 1 rfl) ?_
    refine lv_aload_n hx hb d_p3m4_5 rfl (lv_at hl 0 rfl) ?_
    refine pd_get X w hx0 rfl 3 (by decide) mT_352 rfl rfl d_p3m4_6 ?_
    refine lv_icmp_lt (tgt := 15) hx hb d_p3m4_9 (by decide) (fun q2 => ?_) (fun q2 => ?_)
    · -- taken: 15
      refine lv_aload_n hx hb d_p3m4_15 rfl (lv_at hl 0 rfl) ?_
      refine pd_get X w hx0 rfl 4 (by decide) mT_353 rfl rfl d_p3m4_16 ?_
      refine lv_iconst (v := nI 1) hx hb d_p3m4_19 (by decide) ?_
      refine lv_isub hx hb d_p3m4_20 ?_
      refine lv_iload_n hx hb d_p3m4_21 rfl (lv_at hl 1 rfl) ?_
      refine lv_isub hx hb d_p3m4_22 ?_
      have hkl := pd_ix_lt q1 q2 (by omega)
      have hke := pd_nn_i q1
      refine pd_top (v' := .int (nI (nx + 11 - k0.toNatClampNeg) - nI 12)) (congrArg Value.int (by rw [← fm_k nx hnx k0.toNatClampNeg (by omega), hke])) ?_
      refine lv_bipush (v := nI 12) hx hb d_p3m4_23 (by decide) ?_
      refine pd_cS (As := [.int (nI (nx + 11 - k0.toNatClampNeg) - nI 12), .int (nI 12)]) (rest := []) X w (c_Math_floorMod l G h (by omega)) ok_Math_floorMod mT_1111 mT_1110 ⟨by decide, by decide⟩ rfl hl.1 rfl (Nat.le_of_ble_eq_true rfl) d_p3m4_25 ⟨by decide, by decide⟩ (fun r3 h4 H locs hp5 w => ?_)
      refine W.widen (k := 0) (n := 0) (by decide) (by decide) ?_
      obtain ⟨e6, rfl⟩ := hp5
      refine pd_top (v' := .int (nI ((nx + 11 - k0.toNatClampNeg) % 12))) (by rw [e6]) ?_
      have hTr := hT ((nx + 11 - k0.toNatClampNeg) % 12) (by omega)
      have hTl := hTr.2.1
      refine lv_istore_n (lv' := [(3, .int (nI ((nx + 11 - k0.toNatClampNeg) % 12))), (0, .ref x), (1, .int k0), (2, .int i0)]) hx hb d_p3m4_28 rfl hl (by decide) rfl (fun ls hl => ?_)
      refine lv_iload_n hx hb d_p3m4_29 rfl (lv_at hl 3 rfl) ?_
      refine lv_if_lt (tgt := 43) hx hb d_p3m4_30 (by decide) (fun q7 => ?_) (fun q7 => ?_)
      · -- taken: 43
        refine lv_bipush (v := -2) hx hb d_p3m4_43 (by decide) ?_
        refine lv_goto (tgt := 59) hx hb d_p3m4_45 (by decide) ?_
        exact pd_iret (v := (-2)) X w ⟨by simp only [gr_lat, pd_ix_in q1 q2, pd_ix_neg q7], rfl⟩ (by decide) (by decide) d_p3m4_59
      · -- not taken: 33
        refine lv_iload_n hx hb d_p3m4_33 rfl (lv_at hl 3 rfl) ?_
        refine lv_aload_n hx hb d_p3m4_34 rfl (lv_at hl 1 rfl) ?_
        refine pd_get X w hx0 rfl 1 (by decide) mT_350 rfl rfl d_p3m4_35 ?_
        refine lv_iload_n hx hb d_p3m4_38 rfl (lv_at hl 0 rfl) ?_
        refine pd_iald X w hln (by omega) (by omega) d_p3m4_39 ?_
        refine pd_top (v' := .int (nI ((T ((nx + 11 - k0.toNatClampNeg) % 12)).length))) (by rw [hTr.1]) ?_
        refine lv_icmp_lt (tgt := 48) hx hb d_p3m4_40 (by decide) (fun q8 => ?_) (fun q8 => ?_)
        · -- taken: 48
          refine lv_aload_n hx hb d_p3m4_48 rfl (lv_at hl 1 rfl) ?_
          refine pd_get X w hx0 rfl 0 (by decide) mT_349 rfl rfl d_p3m4_49 ?_
          refine lv_iload_n hx hb d_p3m4_52 rfl (lv_at hl 0 rfl) ?_
          refine lv_bipush (v := nI 96) hx hb d_p3m4_53 (by decide) ?_
          refine pd_imul hx hb d_p3m4_55 ?_
          refine lv_iload_n hx hb d_p3m4_56 rfl (lv_at hl 3 rfl) ?_
          have hil := pd_ix_lt q7 q8 (by omega)
          refine pd_top (v' := .int (nI i0.toNatClampNeg)) (by rw [pd_nn_i q7]) ?_
          refine pd_iadd hx hb d_p3m4_57 ?_
          refine pd_cald X w hle (by omega) (by omega) d_p3m4_58 ?_
          exact pd_iret (v := (f ((((nx + 11 - k0.toNatClampNeg) % 12) * 96) + i0.toNatClampNeg))) X w ⟨by simp only [gr_lat, pd_ix_in q1 q2, pd_ix_in q7 q8]; exact hTr.2.2 _ hil, rfl⟩ (by decide) (by decide) d_p3m4_59
        · -- not taken: 43
          refine lv_bipush (v := -2) hx hb d_p3m4_43 (by decide) ?_
          refine lv_goto (tgt := 59) hx hb d_p3m4_45 (by decide) ?_
          exact pd_iret (v := (-2)) X w ⟨by simp only [gr_lat, pd_ix_in q1 q2, pd_ix_ge q7 q8], rfl⟩ (by decide) (by decide) d_p3m4_59
    · -- not taken: 12
      refine lv_bipush (v := -2) hx hb d_p3m4_12 (by decide) ?_
      exact pd_iret (v := (-2)) X w ⟨by simp only [gr_lat, pd_ix_ge q1 q2], rfl⟩ (by decide) (by decide) d_p3m4_14
theorem d_p3m1_0 : decode prog_3_method_1_code 0 = .ok (.aload_n 0, 1) := by decide +kernel
theorem d_p3m1_1 : decode prog_3_method_1_code 1 = .ok (.invokespecial 3, 3) := by decide +kernel
theorem d_p3m1_4 : decode prog_3_method_1_code 4 = .ok (.aload_n 0, 1) := by decide +kernel
theorem d_p3m1_5 : decode prog_3_method_1_code 5 = .ok (.sipush 1152, 3) := by decide +kernel
theorem d_p3m1_8 : decode prog_3_method_1_code 8 = .ok (.newarray .char, 2) := by decide +kernel
theorem d_p3m1_10 : decode prog_3_method_1_code 10 = .ok (.putfield 11, 3) := by decide +kernel
theorem d_p3m1_13 : decode prog_3_method_1_code 13 = .ok (.aload_n 0, 1) := by decide +kernel
theorem d_p3m1_14 : decode prog_3_method_1_code 14 = .ok (.bipush 12, 2) := by decide +kernel
theorem d_p3m1_16 : decode prog_3_method_1_code 16 = .ok (.newarray .int, 2) := by decide +kernel
theorem d_p3m1_18 : decode prog_3_method_1_code 18 = .ok (.putfield 15, 3) := by decide +kernel
theorem d_p3m1_21 : decode prog_3_method_1_code 21 = .ok (.aload_n 0, 1) := by decide +kernel
theorem d_p3m1_22 : decode prog_3_method_1_code 22 = .ok (.new 19, 3) := by decide +kernel
theorem d_p3m1_25 : decode prog_3_method_1_code 25 = .ok (.dup, 1) := by decide +kernel
theorem d_p3m1_26 : decode prog_3_method_1_code 26 = .ok (.invokespecial 21, 3) := by decide +kernel
theorem d_p3m1_29 : decode prog_3_method_1_code 29 = .ok (.putfield 22, 3) := by decide +kernel
theorem d_p3m1_32 : decode prog_3_method_1_code 32 = .ok (.return_, 1) := by decide +kernel
abbrev y_Audit_init : MethodName := ⟨"PolicyDesk$Audit", "<init>", "()V"⟩
theorem ok_Audit_init : pd_ok y_Audit_init prog_3_method_1_code 1 none 0 := ⟨mT_345, mT_20, by decide, by decide +kernel⟩
abbrev rm_Audit_init : Room := { frames := 3, cells := 4, slots := 1184, locals := 61 }
set_option maxHeartbeats 4000000 in
set_option maxRecDepth 100000 in
theorem c_Audit_init (l : Launch) (G : pd_G) (h : pd_H) {x : Nat} (hx0 : h x = some (15, .inr (1, [.null, .null, .null, .int (nI 0), .int (nI 0)]))) (hz_x : G.2.1 ≤ x) : pd_Mv l y_Audit_init prog_3_method_1_code 1 rm_Audit_init G h [.ref x] (fun h1 => pd_kx [15] h h1 ∧ pd_Aud G h1 x (fun _ => []) 0 0) := by
  refine pd_Mv.of (by decide) (Nat.le_of_ble_eq_true rfl) ?_
  intro p e s m below meth c X hmn w ls hl
  have hx := X.1
  have hb := X.2.1
  have hl : lv_has ls 1 [(0, .ref x)] := hl
  refine lv_aload_n hx hb d_p3m1_0 rfl (lv_at hl 0 rfl) ?_
  refine W.objInit hx hb X.2.2.2.2.1 (X.2.2.2.2.2.1 _ mT_346) (X.2.2.2.2.2.1 _ mT_38) (X.2.2.2.2.2.1 _ mT_39) rfl (by rw [X.2.2.2.1]; exact hl.1) rfl d_p3m1_1 (by decide) (Nat.le_of_ble_eq_true rfl) ?_
  refine W.eq (g2 := F0 m 4 ls []) rfl ?_
  refine lv_aload_n hx hb d_p3m1_4 rfl (lv_at hl 0 rfl) ?_
  refine lv_sipush (v := nI 1152) hx hb d_p3m1_5 (by decide) ?_
  refine pd_newa (ty := .char) (x := (1152, .inl (fun _ => 0))) 16 X w rfl mT_365 rfl rfl (by omega) (by decide) (fun _ h9 => h9) (by decide) (Nat.le_trans (Nat.add_le_add_left (by omega : 1152 ≤ 1152) _) (by decide)) d_p3m1_8 (fun q1 H hq2 hz3 w => ?_)
  refine W.widen (k := 1) (n := 1152) (by decide) (by omega) ?_
  obtain ⟨h4, u7⟩ : ∃ z, z = pd_up h q1 (16, .inl (.char, 1152, .inl (fun _ => 0))) := ⟨_, rfl⟩
  rw [← u7] at w
  have k5 : pd_kx [] h h4 := by rw [u7]; exact pd_new_kx hq2
  have f6 : h4 q1 = some (16, .inl (.char, 1152, .inl (fun _ => 0))) := by rw [u7]; exact pd_up_s _ _ _
  have f8 := k5 _ _ hx0 List.not_mem_nil
  refine pd_putF (ty := (.array .char)) X w f8 hz_x rfl 0 (by decide) mT_349 rfl rfl hmn rfl (by decide +kernel) rfl rfl (Nat.le_of_ble_eq_true rfl) d_p3m1_10 (fun H locs w => ?_)
  have w : pd_w G s H locs (pd_up h4 x (15, .inr (1, [.ref q1, .null, .null, .int (nI 0), .int (nI 0)]))) := w
  obtain ⟨h9, u12⟩ : ∃ z, z = pd_up h4 x (15, .inr (1, [.ref q1, .null, .null, .int (nI 0), .int (nI 0)])) := ⟨_, rfl⟩
  rw [← u12] at w
  have k10 : pd_kq x h4 h9 := by rw [u12]; exact pd_up_kq
  have f11 : h9 x = some (15, .inr (1, [.ref q1, .null, .null, .int (nI 0), .int (nI 0)])) := by rw [u12]; exact pd_up_s _ _ _
  have f13 := k10 _ _ (pd_ne f6 f8 (by simp)) f6
  refine lv_aload_n hx hb d_p3m1_13 rfl (lv_at hl 0 rfl) ?_
  refine lv_bipush (v := nI 12) hx hb d_p3m1_14 (by decide) ?_
  refine pd_newa (ty := .int) (x := (12, .inl (fun _ => 0))) 17 X w rfl mT_366 rfl rfl (by omega) (by decide) (fun _ h9 => h9) (by decide) (Nat.le_trans (Nat.add_le_add_left (by omega : 12 ≤ 12) _) (by decide)) d_p3m1_16 (fun q14 H hq15 hz16 w => ?_)
  refine W.widen (k := 2) (n := 1164) (by decide) (by omega) ?_
  obtain ⟨h17, u20⟩ : ∃ z, z = pd_up h9 q14 (17, .inl (.int, 12, .inl (fun _ => 0))) := ⟨_, rfl⟩
  rw [← u20] at w
  have k18 : pd_kx [] h9 h17 := by rw [u20]; exact pd_new_kx hq15
  have f19 : h17 q14 = some (17, .inl (.int, 12, .inl (fun _ => 0))) := by rw [u20]; exact pd_up_s _ _ _
  have f21 := k18 _ _ f11 List.not_mem_nil
  have f22 := k18 _ _ f13 List.not_mem_nil
  refine pd_putF (ty := (.array .int)) X w f21 hz_x rfl 1 (by decide) mT_350 rfl rfl hmn rfl (by decide +kernel) rfl rfl (Nat.le_of_ble_eq_true rfl) d_p3m1_18 (fun H locs w => ?_)
  have w : pd_w G s H locs (pd_up h17 x (15, .inr (1, [.ref q1, .ref q14, .null, .int (nI 0), .int (nI 0)]))) := w
  obtain ⟨h23, u26⟩ : ∃ z, z = pd_up h17 x (15, .inr (1, [.ref q1, .ref q14, .null, .int (nI 0), .int (nI 0)])) := ⟨_, rfl⟩
  rw [← u26] at w
  have k24 : pd_kq x h17 h23 := by rw [u26]; exact pd_up_kq
  have f25 : h23 x = some (15, .inr (1, [.ref q1, .ref q14, .null, .int (nI 0), .int (nI 0)])) := by rw [u26]; exact pd_up_s _ _ _
  have f27 := k24 _ _ (pd_ne f22 f21 (by simp)) f22
  have f28 := k24 _ _ (pd_ne f19 f21 (by simp)) f19
  refine lv_aload_n hx hb d_p3m1_21 rfl (lv_at hl 0 rfl) ?_
  refine pd_new (ci := 11) (C := "java/lang/StringBuilder") (T := pd_F11) (N := 4) (fs := [.null, .int (nI 0), .int (nI 0), .int (nI 0)]) 3 X w rfl mT_347 mT_41 mT_3 (pd_hfs (by decide +kernel)) (by decide) (by decide) d_p3m1_22 (fun q29 H hq30 hz31 w => ?_)
  refine W.widen (k := 3) (n := 1168) (by decide) (by decide) ?_
  obtain ⟨h32, u35⟩ : ∃ z, z = pd_up h23 q29 (3, .inr (11, [.null, .int (nI 0), .int (nI 0), .int (nI 0)])) := ⟨_, rfl⟩
  rw [← u35] at w
  have k33 : pd_kx [] h23 h32 := by rw [u35]; exact pd_new_kx hq30
  have f34 : h32 q29 = some (3, .inr (11, [.null, .int (nI 0), .int (nI 0), .int (nI 0)])) := by rw [u35]; exact pd_up_s _ _ _
  have f36 := k33 _ _ f25 List.not_mem_nil
  have f37 := k33 _ _ f27 List.not_mem_nil
  have f38 := k33 _ _ f28 List.not_mem_nil
  refine lv_dup hx hb d_p3m1_25 rfl ?_
  refine pd_cI (a := q29) (As := []) (rest := [.ref q29, .ref x]) X w (c_SB_init l G h32 4 (by assumption) (by assumption)) ok_SB_init rfl mT_43 mT_348 ⟨by decide, by decide⟩ rfl hl.1 rfl (Nat.le_of_ble_eq_true rfl) d_p3m1_26 ⟨by decide, by decide⟩ (fun h40 H locs hp41 w => ?_)
  refine W.widen (k := 4) (n := 1184) (by decide) (by decide) ?_
  obtain ⟨k42, f43⟩ := hp41
  have f44 := k42 _ _ (pd_nn f25 hq30) f36
  have f45 := k42 _ _ (pd_nn f27 hq30) f37
  have f46 := k42 _ _ (pd_nn f28 hq30) f38
  refine pd_putF (ty := (.object "java/lang/StringBuilder")) X w f44 hz_x rfl 2 (by decide) mT_351 rfl rfl hmn rfl (by decide +kernel) rfl rfl (Nat.le_of_ble_eq_true rfl) d_p3m1_29 (fun H locs w => ?_)
  have w : pd_w G s H locs (pd_up h40 x (15, .inr (1, [.ref q1, .ref q14, .ref q29, .int (nI 0), .int (nI 0)]))) := w
  obtain ⟨h47, u50⟩ : ∃ z, z = pd_up h40 x (15, .inr (1, [.ref q1, .ref q14, .ref q29, .int (nI 0), .int (nI 0)])) := ⟨_, rfl⟩
  rw [← u50] at w
  have k48 : pd_kq x h40 h47 := by rw [u50]; exact pd_up_kq
  have f49 : h47 x = some (15, .inr (1, [.ref q1, .ref q14, .ref q29, .int (nI 0), .int (nI 0)])) := by rw [u50]; exact pd_up_s _ _ _
  have f51 := k48 _ _ (pd_ne f45 f44 (by simp)) f45
  have f52 := k48 _ _ (pd_ne f46 f44 (by simp)) f46
  have f53 := f43.kx (pd_kq.kx k48 f44) (show (3 : Nat) ∉ [15] by decide) (show (4 : Nat) ∉ [15] by decide)
  have kt54 : pd_kx [15] h h47 := by
    intro ya c9 ys0 n9
    have ys1 := k5 ya c9 ys0 List.not_mem_nil
    have ys2 := k10 ya c9 (pd_ne ys1 f8 (fun z9 => n9 (by rw [z9]; simp))) ys1
    have ys3 := k18 ya c9 ys2 List.not_mem_nil
    have ys4 := k24 ya c9 (pd_ne ys3 f21 (fun z9 => n9 (by rw [z9]; simp))) ys3
    have ys5 := k33 ya c9 ys4 List.not_mem_nil
    have ys6 := k42 ya c9 (pd_nn ys4 hq30) ys5
    have ys7 := k48 ya c9 (pd_ne ys6 f44 (fun z9 => n9 (by rw [z9]; simp))) ys6
    exact ys7
  exact pd_vret X w ⟨kt54, q1, q14, q29, _, _, _, f49, f51, f52, f53, (fun r hr => ⟨rfl, Nat.zero_le _, fun i hi => absurd hi (Nat.not_lt_zero i)⟩), Nat.zero_le _, (by decide), hz_x, hz3, hz16⟩ (by decide) (by decide) d_p3m1_32
theorem d_p3m2_0 : decode prog_3_method_2_code 0 = .ok (.aload_n 0, 1) := by decide +kernel
theorem d_p3m2_1 : decode prog_3_method_2_code 1 = .ok (.getfield 22, 3) := by decide +kernel
theorem d_p3m2_4 : decode prog_3_method_2_code 4 = .ok (.iconst 0, 1) := by decide +kernel
theorem d_p3m2_5 : decode prog_3_method_2_code 5 = .ok (.invokevirtual 26, 3) := by decide +kernel
theorem d_p3m2_8 : decode prog_3_method_2_code 8 = .ok (.aload_n 0, 1) := by decide +kernel
theorem d_p3m2_9 : decode prog_3_method_2_code 9 = .ok (.getfield 22, 3) := by decide +kernel
theorem d_p3m2_12 : decode prog_3_method_2_code 12 = .ok (.iload_n 1, 1) := by decide +kernel
theorem d_p3m2_13 : decode prog_3_method_2_code 13 = .ok (.invokevirtual 30, 3) := by decide +kernel
theorem d_p3m2_16 : decode prog_3_method_2_code 16 = .ok (.bipush 32, 2) := by decide +kernel
theorem d_p3m2_18 : decode prog_3_method_2_code 18 = .ok (.invokevirtual 34, 3) := by decide +kernel
theorem d_p3m2_21 : decode prog_3_method_2_code 21 = .ok (.aload_n 2, 1) := by decide +kernel
theorem d_p3m2_22 : decode prog_3_method_2_code 22 = .ok (.invokevirtual 37, 3) := by decide +kernel
theorem d_p3m2_25 : decode prog_3_method_2_code 25 = .ok (.bipush 32, 2) := by decide +kernel
theorem d_p3m2_27 : decode prog_3_method_2_code 27 = .ok (.invokevirtual 34, 3) := by decide +kernel
theorem d_p3m2_30 : decode prog_3_method_2_code 30 = .ok (.iload_n 3, 1) := by decide +kernel
theorem d_p3m2_31 : decode prog_3_method_2_code 31 = .ok (.invokestatic 40, 3) := by decide +kernel
theorem d_p3m2_34 : decode prog_3_method_2_code 34 = .ok (.invokevirtual 37, 3) := by decide +kernel
theorem d_p3m2_37 : decode prog_3_method_2_code 37 = .ok (.pop, 1) := by decide +kernel
theorem d_p3m2_38 : decode prog_3_method_2_code 38 = .ok (.iload_n 3, 1) := by decide +kernel
theorem d_p3m2_39 : decode prog_3_method_2_code 39 = .ok (.sipush 10000, 3) := by decide +kernel
theorem d_p3m2_42 : decode prog_3_method_2_code 42 = .ok (.if_icmp .lt 19, 3) := by decide +kernel
theorem d_p3m2_45 : decode prog_3_method_2_code 45 = .ok (.aload_n 0, 1) := by decide +kernel
theorem d_p3m2_46 : decode prog_3_method_2_code 46 = .ok (.getfield 22, 3) := by decide +kernel
theorem d_p3m2_49 : decode prog_3_method_2_code 49 = .ok (.iload_n 3, 1) := by decide +kernel
theorem d_p3m2_50 : decode prog_3_method_2_code 50 = .ok (.sipush 10000, 3) := by decide +kernel
theorem d_p3m2_53 : decode prog_3_method_2_code 53 = .ok (.isub, 1) := by decide +kernel
theorem d_p3m2_54 : decode prog_3_method_2_code 54 = .ok (.invokevirtual 30, 3) := by decide +kernel
theorem d_p3m2_57 : decode prog_3_method_2_code 57 = .ok (.pop, 1) := by decide +kernel
theorem d_p3m2_58 : decode prog_3_method_2_code 58 = .ok (.goto 16, 3) := by decide +kernel
theorem d_p3m2_61 : decode prog_3_method_2_code 61 = .ok (.iload_n 3, 1) := by decide +kernel
theorem d_p3m2_62 : decode prog_3_method_2_code 62 = .ok (.ifCond .lt 12, 3) := by decide +kernel
theorem d_p3m2_65 : decode prog_3_method_2_code 65 = .ok (.aload_n 0, 1) := by decide +kernel
theorem d_p3m2_66 : decode prog_3_method_2_code 66 = .ok (.getfield 22, 3) := by decide +kernel
theorem d_p3m2_69 : decode prog_3_method_2_code 69 = .ok (.iload_n 3, 1) := by decide +kernel
theorem d_p3m2_70 : decode prog_3_method_2_code 70 = .ok (.invokevirtual 30, 3) := by decide +kernel
theorem d_p3m2_73 : decode prog_3_method_2_code 73 = .ok (.pop, 1) := by decide +kernel
theorem d_p3m2_74 : decode prog_3_method_2_code 74 = .ok (.aload_n 0, 1) := by decide +kernel
theorem d_p3m2_75 : decode prog_3_method_2_code 75 = .ok (.getfield 15, 3) := by decide +kernel
theorem d_p3m2_78 : decode prog_3_method_2_code 78 = .ok (.aload_n 0, 1) := by decide +kernel
theorem d_p3m2_79 : decode prog_3_method_2_code 79 = .ok (.getfield 44, 3) := by decide +kernel
theorem d_p3m2_82 : decode prog_3_method_2_code 82 = .ok (.aload_n 0, 1) := by decide +kernel
theorem d_p3m2_83 : decode prog_3_method_2_code 83 = .ok (.getfield 22, 3) := by decide +kernel
theorem d_p3m2_86 : decode prog_3_method_2_code 86 = .ok (.invokevirtual 48, 3) := by decide +kernel
theorem d_p3m2_89 : decode prog_3_method_2_code 89 = .ok (.bipush 96, 2) := by decide +kernel
theorem d_p3m2_91 : decode prog_3_method_2_code 91 = .ok (.invokestatic 52, 3) := by decide +kernel
theorem d_p3m2_94 : decode prog_3_method_2_code 94 = .ok (.iastore, 1) := by decide +kernel
theorem d_p3m2_95 : decode prog_3_method_2_code 95 = .ok (.iconst 0, 1) := by decide +kernel
theorem d_p3m2_96 : decode prog_3_method_2_code 96 = .ok (.istore 4, 2) := by decide +kernel
theorem d_p3m2_98 : decode prog_3_method_2_code 98 = .ok (.iload 4, 2) := by decide +kernel
theorem d_p3m2_100 : decode prog_3_method_2_code 100 = .ok (.aload_n 0, 1) := by decide +kernel
theorem d_p3m2_101 : decode prog_3_method_2_code 101 = .ok (.getfield 15, 3) := by decide +kernel
theorem d_p3m2_104 : decode prog_3_method_2_code 104 = .ok (.aload_n 0, 1) := by decide +kernel
theorem d_p3m2_105 : decode prog_3_method_2_code 105 = .ok (.getfield 44, 3) := by decide +kernel
theorem d_p3m2_108 : decode prog_3_method_2_code 108 = .ok (.iaload, 1) := by decide +kernel
theorem d_p3m2_109 : decode prog_3_method_2_code 109 = .ok (.if_icmp .ge 33, 3) := by decide +kernel
theorem d_p3m2_112 : decode prog_3_method_2_code 112 = .ok (.aload_n 0, 1) := by decide +kernel
theorem d_p3m2_113 : decode prog_3_method_2_code 113 = .ok (.getfield 11, 3) := by decide +kernel
theorem d_p3m2_116 : decode prog_3_method_2_code 116 = .ok (.aload_n 0, 1) := by decide +kernel
theorem d_p3m2_117 : decode prog_3_method_2_code 117 = .ok (.getfield 44, 3) := by decide +kernel
theorem d_p3m2_120 : decode prog_3_method_2_code 120 = .ok (.bipush 96, 2) := by decide +kernel
theorem d_p3m2_122 : decode prog_3_method_2_code 122 = .ok (.imul, 1) := by decide +kernel
theorem d_p3m2_123 : decode prog_3_method_2_code 123 = .ok (.iload 4, 2) := by decide +kernel
theorem d_p3m2_125 : decode prog_3_method_2_code 125 = .ok (.iadd, 1) := by decide +kernel
theorem d_p3m2_126 : decode prog_3_method_2_code 126 = .ok (.aload_n 0, 1) := by decide +kernel
theorem d_p3m2_127 : decode prog_3_method_2_code 127 = .ok (.getfield 22, 3) := by decide +kernel
theorem d_p3m2_130 : decode prog_3_method_2_code 130 = .ok (.iload 4, 2) := by decide +kernel
theorem d_p3m2_132 : decode prog_3_method_2_code 132 = .ok (.invokevirtual 58, 3) := by decide +kernel
theorem d_p3m2_135 : decode prog_3_method_2_code 135 = .ok (.castore, 1) := by decide +kernel
theorem d_p3m2_136 : decode prog_3_method_2_code 136 = .ok (.iinc 4 1, 3) := by decide +kernel
theorem d_p3m2_139 : decode prog_3_method_2_code 139 = .ok (.goto (-41), 3) := by decide +kernel
theorem d_p3m2_142 : decode prog_3_method_2_code 142 = .ok (.aload_n 0, 1) := by decide +kernel
theorem d_p3m2_143 : decode prog_3_method_2_code 143 = .ok (.aload_n 0, 1) := by decide +kernel
theorem d_p3m2_144 : decode prog_3_method_2_code 144 = .ok (.getfield 44, 3) := by decide +kernel
theorem d_p3m2_147 : decode prog_3_method_2_code 147 = .ok (.iconst 1, 1) := by decide +kernel
theorem d_p3m2_148 : decode prog_3_method_2_code 148 = .ok (.iadd, 1) := by decide +kernel
theorem d_p3m2_149 : decode prog_3_method_2_code 149 = .ok (.bipush 12, 2) := by decide +kernel
theorem d_p3m2_151 : decode prog_3_method_2_code 151 = .ok (.irem, 1) := by decide +kernel
theorem d_p3m2_152 : decode prog_3_method_2_code 152 = .ok (.putfield 44, 3) := by decide +kernel
theorem d_p3m2_155 : decode prog_3_method_2_code 155 = .ok (.aload_n 0, 1) := by decide +kernel
theorem d_p3m2_156 : decode prog_3_method_2_code 156 = .ok (.aload_n 0, 1) := by decide +kernel
theorem d_p3m2_157 : decode prog_3_method_2_code 157 = .ok (.getfield 62, 3) := by decide +kernel
theorem d_p3m2_160 : decode prog_3_method_2_code 160 = .ok (.iconst 1, 1) := by decide +kernel
theorem d_p3m2_161 : decode prog_3_method_2_code 161 = .ok (.iadd, 1) := by decide +kernel
theorem d_p3m2_162 : decode prog_3_method_2_code 162 = .ok (.bipush 12, 2) := by decide +kernel
theorem d_p3m2_164 : decode prog_3_method_2_code 164 = .ok (.invokestatic 52, 3) := by decide +kernel
theorem d_p3m2_167 : decode prog_3_method_2_code 167 = .ok (.putfield 62, 3) := by decide +kernel
theorem d_p3m2_170 : decode prog_3_method_2_code 170 = .ok (.return_, 1) := by decide +kernel
abbrev y_Audit_write : MethodName := ⟨"PolicyDesk$Audit", "write", "(ILjava/lang/String;I)V"⟩
theorem ok_Audit_write : pd_ok y_Audit_write prog_3_method_2_code 5 none 3 := ⟨mT_995, mT_20, by decide, by decide +kernel⟩
abbrev rm_Audit_write : Room := { frames := 6, cells := 60, slots := 1600, locals := 135 }
set_option maxHeartbeats 4000000 in
set_option maxRecDepth 100000 in
theorem lp_Audit_write_98 (l : Launch) (G : pd_G) (h : pd_H) {x : Nat} {T : Nat → List Nat} {kp nx : Nat} {nu a : Nat} {cs : List Nat} {ans : Int32} (hA : pd_Aud G h x T kp nx) (hnu : nu < 1000) (hS : pd_Str h a cs) (hans : gr_aok ans) {p : Program} {e : Env} {s : State} {m : MethodId} {below : List Frame} {meth : Method} {c : Code} (X : pd_B p s m [.ref x, .int (nI nu), .ref a, .int ans].toArray meth c G y_Audit_write.cls prog_3_method_2_code 5 none) (hmn : meth.name = y_Audit_write.name) :
    ∀ (kk9 : Nat) (i : Nat) (f2 : Nat → Int32) (hh : pd_H) (cC : Nat) (cS : Nat) (le2 : Nat) (ln2 : Nat) (dr2 : Nat) (f0 : Nat → Int32) (g0 : Nat → Int32), ((gr_atx nu cs ans).length ≤ 96) → (i ≤ (gr_atx nu cs ans).length) → (cC ≤ 60) → (cS ≤ 1600) → (∀ r, r < 12 → g0 r = nI (T r).length ∧ (T r).length ≤ 96 ∧ ∀ i, i < (T r).length → f0 (r * 96 + i) = nI ((T r).getD i 0)) → (G.2.1 ≤ le2) → (G.2.1 ≤ ln2) → (pd_kx [3, 4, 15, 16, 17] h hh) → (hh x = some (15, .inr (1, [.ref le2, .ref ln2, .ref dr2, .int (nI kp), .int (nI nx)]))) → (hh le2 = some (16, .inl (.char, 1152, .inl f2))) → (hh ln2 = some (17, .inl (.int, 12, .inl (upd g0 nx (nI (gr_atx nu cs ans).length))))) → (pd_SB G hh dr2 3 4 (gr_atx nu cs ans)) → (∀ j, j < i → f2 (nx * 96 + j) = nI ((gr_atx nu cs ans).getD j 0)) → (∀ y, (y < nx * 96 ∨ nx * 96 + 96 ≤ y) → f2 y = f0 y) → 100 - i < kk9 → ∀ (H : Heap) (locs : List Loc), pd_w G s H locs hh → ∀ ls : Array Slot, lv_has ls 5 [(4, .int (nI i)), (0, .ref x), (1, .int (nI nu)), (2, .ref a), (3, .int ans)] → W p l e rm_Audit_write s m [.ref x, .int (nI nu), .ref a, .int ans].toArray below meth c H locs cC cS (MQ below (pd_Qv G (fun h1 => pd_kx [3, 4, 15, 16, 17] h h1 ∧ pd_Aud G h1 x (pd_fu T nx (gr_atx nu cs ans)) (min (kp + 1) 12) ((nx + 1) % 12))) [.ref x, .int (nI nu), .ref a, .int ans].toArray s rm_Audit_write.cells rm_Audit_write.slots (fun q => G.2.1 ≤ q)) (F0 m 98 ls []) := by
  have hx := X.1
  have hb := X.2.1
  obtain ⟨le, ln, dr, f, g, ds0, hx0, hle, hln, hsb, hT, hkp, hnx, hz_x, hz_le, hz_ln⟩ := id hA
  have ht43 : (4 : Nat) ≠ 3 := by decide
  have ht30 : (3 : Nat) ≠ 0 := by decide
  have ht40 : (4 : Nat) ≠ 0 := by decide
  have hd0 := gr_dig_len (x := nu)
  have hcl : cs.length ≤ 60 := by obtain ⟨_, _, _, _, _, _, z⟩ := hS; exact z
  intro kk9
  induction kk9 with
  | zero => intros; omega
  | succ kk9 ih =>
    intro i f2 hh cC cS le2 ln2 dr2 f0 g0 hatl hi hcC hcS hT0 hz_le2 hz_ln2 hk2 hx2 hle2 hln2 hsb2 hw1 hw2 hmu H locs w ls hl
    refine lv_iload hx hb d_p3m2_98 (lv_at hl 0 rfl) ?_
    refine lv_aload_n hx hb d_p3m2_100 rfl (lv_at hl 1 rfl) ?_
    refine pd_get X w hx2 rfl 1 (by decide) mT_350 rfl rfl d_p3m2_101 ?_
    refine lv_aload_n hx hb d_p3m2_104 rfl (lv_at hl 1 rfl) ?_
    refine pd_get X w hx2 rfl 4 (by decide) mT_353 rfl rfl d_p3m2_105 ?_
    refine pd_iald X w hln2 (by omega) (by omega) d_p3m2_108 ?_
    refine pd_top (v' := .int (nI ((gr_atx nu cs ans).length))) (by rw [pk_us]) ?_
    refine pd_jge (tgt := 142) hx hb d_p3m2_109 (by decide) (by omega) (by omega) (fun q1 => ?_) (fun q1 => ?_)
    · -- taken: 142
      refine lv_aload_n hx hb d_p3m2_142 rfl (lv_at hl 1 rfl) ?_
      refine lv_aload_n hx hb d_p3m2_143 rfl (lv_at hl 1 rfl) ?_
      refine pd_get X w hx2 rfl 4 (by decide) mT_353 rfl rfl d_p3m2_144 ?_
      refine lv_iconst (v := nI 1) hx hb d_p3m2_147 (by decide) ?_
      refine pd_iadd hx hb d_p3m2_148 ?_
      refine lv_bipush (v := nI 12) hx hb d_p3m2_149 (by decide) ?_
      refine lv_irem hx hb d_p3m2_151 (by decide) ?_
      refine pd_top (v' := .int (nI ((nx + 1) % 12))) (by rw [pk_rem (by omega) (by omega) (by omega)]) ?_
      refine pd_put (ty := .int) X w hx2 hz_x rfl 4 (by decide) mT_353 rfl rfl (by decide +kernel) rfl rfl (Nat.le_of_ble_eq_true rfl) d_p3m2_152 (fun H locs w => ?_)
      have w : pd_w G s H locs (pd_up hh x (15, .inr (1, [.ref le2, .ref ln2, .ref dr2, .int (nI kp), .int (nI ((nx + 1) % 12))]))) := w
      obtain ⟨h2, u5⟩ : ∃ z, z = pd_up hh x (15, .inr (1, [.ref le2, .ref ln2, .ref dr2, .int (nI kp), .int (nI ((nx + 1) % 12))])) := ⟨_, rfl⟩
      rw [← u5] at w
      have k3 : pd_kq x hh h2 := by rw [u5]; exact pd_up_kq
      have f4 : h2 x = some (15, .inr (1, [.ref le2, .ref ln2, .ref dr2, .int (nI kp), .int (nI ((nx + 1) % 12))])) := by rw [u5]; exact pd_up_s _ _ _
      have f6 := k3 _ _ (pd_ne hle2 hx2 (by simp)) hle2
      have f7 := k3 _ _ (pd_ne hln2 hx2 (by simp)) hln2
      have f8 := hsb2.kx (pd_kq.kx k3 hx2) (show (3 : Nat) ∉ [15] by decide) (show (4 : Nat) ∉ [15] by decide)
      refine lv_aload_n hx hb d_p3m2_155 rfl (lv_at hl 1 rfl) ?_
      refine lv_aload_n hx hb d_p3m2_156 rfl (lv_at hl 1 rfl) ?_
      refine pd_get X w f4 rfl 3 (by decide) mT_352 rfl rfl d_p3m2_157 ?_
      refine lv_iconst (v := nI 1) hx hb d_p3m2_160 (by decide) ?_
      refine pd_iadd hx hb d_p3m2_161 ?_
      refine lv_bipush (v := nI 12) hx hb d_p3m2_162 (by decide) ?_
      refine pd_mmin X hl.1 (by omega) (by omega) mT_1063 mT_245 mT_15 mT_246 (by decide) (Nat.le_of_ble_eq_true rfl) (Nat.le_trans (m := 60) (by show cC ≤ 60; omega) (by decide)) (Nat.le_trans (m := 1600) (by show cS ≤ 1600; omega) (by decide)) d_p3m2_164 ?_
      refine pd_put (ty := .int) X w f4 hz_x rfl 3 (by decide) mT_352 rfl rfl (by decide +kernel) rfl rfl (Nat.le_of_ble_eq_true rfl) d_p3m2_167 (fun H locs w => ?_)
      have w : pd_w G s H locs (pd_up h2 x (15, .inr (1, [.ref le2, .ref ln2, .ref dr2, .int (nI (min (kp + 1) 12)), .int (nI ((nx + 1) % 12))]))) := w
      obtain ⟨h9, u12⟩ : ∃ z, z = pd_up h2 x (15, .inr (1, [.ref le2, .ref ln2, .ref dr2, .int (nI (min (kp + 1) 12)), .int (nI ((nx + 1) % 12))])) := ⟨_, rfl⟩
      rw [← u12] at w
      have k10 : pd_kq x h2 h9 := by rw [u12]; exact pd_up_kq
      have f11 : h9 x = some (15, .inr (1, [.ref le2, .ref ln2, .ref dr2, .int (nI (min (kp + 1) 12)), .int (nI ((nx + 1) % 12))])) := by rw [u12]; exact pd_up_s _ _ _
      have f13 := k10 _ _ (pd_ne f6 f4 (by simp)) f6
      have f14 := k10 _ _ (pd_ne f7 f4 (by simp)) f7
      have f15 := f8.kx (pd_kq.kx k10 f4) (show (3 : Nat) ∉ [15] by decide) (show (4 : Nat) ∉ [15] by decide)
      exact pd_vret X w ⟨hk2.tr (pd_kx.mono (us := [3, 4, 15, 16, 17]) (pd_kx.tr (pd_kq.kx (k3) hx2) (pd_kq.kx (k10) f4)) (by simp)), le2, ln2, dr2, _, _, _, f11, f13, f14, f15, (fun r hr => by by_cases e9 : r = nx; subst e9; rw [pd_fu_s, pk_us]; exact ⟨rfl, hatl, fun i9 hi9 => hw1 i9 (by omega)⟩; rw [pd_fu_n e9, pk_un e9]; exact ⟨(hT0 r hr).1, (hT0 r hr).2.1, fun i9 hi9 => (hw2 _ (by have := (hT0 r hr).2.1; omega)).trans ((hT0 r hr).2.2 i9 hi9)⟩), (by omega), (by omega), hz_x, hz_le2, hz_ln2⟩ (Nat.le_trans (m := 60) (by show cC ≤ 60; omega) (by decide)) (Nat.le_trans (m := 1600) (by show cS ≤ 1600; omega) (by decide)) d_p3m2_170
    · -- not taken: 112
      refine lv_aload_n hx hb d_p3m2_112 rfl (lv_at hl 1 rfl) ?_
      refine pd_get X w hx2 rfl 0 (by decide) mT_349 rfl rfl d_p3m2_113 ?_
      refine lv_aload_n hx hb d_p3m2_116 rfl (lv_at hl 1 rfl) ?_
      refine pd_get X w hx2 rfl 4 (by decide) mT_353 rfl rfl d_p3m2_117 ?_
      refine lv_bipush (v := nI 96) hx hb d_p3m2_120 (by decide) ?_
      refine pd_imul hx hb d_p3m2_122 ?_
      refine lv_iload hx hb d_p3m2_123 (lv_at hl 0 rfl) ?_
      refine pd_iadd hx hb d_p3m2_125 ?_
      refine lv_aload_n hx hb d_p3m2_126 rfl (lv_at hl 1 rfl) ?_
      refine pd_get X w hx2 rfl 2 (by decide) mT_351 rfl rfl d_p3m2_127 ?_
      refine lv_iload hx hb d_p3m2_130 (lv_at hl 0 rfl) ?_
      obtain ⟨v19, cap20, g21, ml22, f23, f24, gf25, gc26, gn27, gp28, ft29, hz30, hz31⟩ := id hsb2
      refine pd_cV (a := dr2) (As := [.int (nI i)]) (rest := [.int (nI ((nx * 96) + i)), .ref le2]) X w f23 rfl (c_SB_charAt l G hh (by assumption) (by assumption) (by assumption) (by assumption) (by omega)) ok_SB_charAt ⟨mT_1065, mT_1066⟩ mT_1064 ⟨by decide, by decide⟩ rfl hl.1 rfl (Nat.le_of_ble_eq_true rfl) d_p3m2_132 ⟨Nat.le_trans (m := 60) (by show cC + 0 ≤ 60; omega) (by decide), Nat.le_trans (m := 1600) (by show cS + 0 ≤ 1600; omega) (by decide)⟩ (fun r16 h17 H locs hp18 w => ?_)
      refine W.widen (k := cC) (n := cS) (by show cC + 0 ≤ cC; omega) (by show cS + 0 ≤ cS; omega) ?_
      obtain ⟨e32, lt33, rfl⟩ := hp18
      refine pd_cast X w hle2 hz_le2 (by omega) (by omega) (pk_charN (by omega)).1 d_p3m2_135 (fun H locs w => ?_)
      have w : pd_w G s H locs (pd_up hh le2 (16, .inl (.char, 1152, .inl (upd f2 ((nx * 96) + i) (nI r16))))) := w
      obtain ⟨h34, u37⟩ : ∃ z, z = pd_up hh le2 (16, .inl (.char, 1152, .inl (upd f2 ((nx * 96) + i) (nI r16)))) := ⟨_, rfl⟩
      rw [← u37] at w
      have k35 : pd_kq le2 hh h34 := by rw [u37]; exact pd_up_kq
      have f36 : h34 le2 = some (16, .inl (.char, 1152, .inl (upd f2 ((nx * 96) + i) (nI r16)))) := by rw [u37]; exact pd_up_s _ _ _
      have f38 := k35 _ _ (pd_ne hx2 hle2 (by simp)) hx2
      have f39 := k35 _ _ (pd_ne f23 hle2 (by simp)) f23
      have f40 := k35 _ _ (pd_ne hln2 hle2 (by simp)) hln2
      have f41 := k35 _ _ (pd_ne f24 hle2 (by simp)) f24
      have f42 := hsb2.kx (pd_kq.kx k35 hle2) (show (3 : Nat) ∉ [16] by decide) (show (4 : Nat) ∉ [16] by decide)
      refine pd_iinc (k := 0) (d := 1) (lv' := [(4, .int (nI (i + 1))), (0, .ref x), (1, .int (nI nu)), (2, .ref a), (3, .int ans)]) hx hb d_p3m2_136 (by decide) hl rfl (by decide) rfl (fun ls hl => ?_)
      refine lv_goto (tgt := 98) hx hb d_p3m2_139 (by decide) ?_
      exact ih (i + 1) (upd f2 ((nx * 96) + i) (nI r16)) h34 cC cS le2 ln2 dr2 f0 g0 (hatl) (by omega) (by omega) (by omega) (hT0) (hz_le2) (hz_ln2) (hk2.tr (pd_kx.mono (us := [3, 4, 15, 16, 17]) (pd_kq.kx (k35) hle2) (by simp))) (f38) (f36) (f40) (f42) (fun j hj => by by_cases e9 : j = i; subst e9; rw [pk_us, ← e32]; rw [pk_un (by omega)]; exact hw1 j (by omega)) (fun y hy => by rw [pk_un (by omega)]; exact hw2 y hy) (by omega) _ _ w ls (lv_sub hl [0, 1, 2, 3, 4] rfl)
set_option maxHeartbeats 4000000 in
set_option maxRecDepth 100000 in
theorem c_Audit_write (l : Launch) (G : pd_G) (h : pd_H) {x : Nat} {T : Nat → List Nat} {kp nx : Nat} {nu a : Nat} {cs : List Nat} {ans : Int32} (hA : pd_Aud G h x T kp nx) (hnu : nu < 1000) (hS : pd_Str h a cs) (hans : gr_aok ans) : pd_Mv l y_Audit_write prog_3_method_2_code 5 rm_Audit_write G h [.ref x, .int (nI nu), .ref a, .int ans] (fun h1 => pd_kx [3, 4, 15, 16, 17] h h1 ∧ pd_Aud G h1 x (pd_fu T nx (gr_atx nu cs ans)) (min (kp + 1) 12) ((nx + 1) % 12)) := by
  refine pd_Mv.of (by decide) (Nat.le_of_ble_eq_true rfl) ?_
  intro p e s m below meth c X hmn w ls hl
  have hx := X.1
  have hb := X.2.1
  have hl : lv_has ls 5 [(0, .ref x), (1, .int (nI nu)), (2, .ref a), (3, .int ans)] := hl
  obtain ⟨le, ln, dr, f, g, ds0, hx0, hle, hln, hsb, hT, hkp, hnx, hz_x, hz_le, hz_ln⟩ := id hA
  have ht43 : (4 : Nat) ≠ 3 := by decide
  have ht30 : (3 : Nat) ≠ 0 := by decide
  have ht40 : (4 : Nat) ≠ 0 := by decide
  have hd0 := gr_dig_len (x := nu)
  have hcl : cs.length ≤ 60 := by obtain ⟨_, _, _, _, _, _, z⟩ := hS; exact z
  refine lv_aload_n hx hb d_p3m2_0 rfl (lv_at hl 0 rfl) ?_
  refine pd_get X w hx0 rfl 2 (by decide) mT_351 rfl rfl d_p3m2_1 ?_
  refine lv_iconst (v := nI 0) hx hb d_p3m2_4 (by decide) ?_
  obtain ⟨v4, cap5, g6, ml7, f8, f9, gf10, gc11, gn12, gp13, ft14, hz15, hz16⟩ := id hsb
  refine pd_cVv (a := dr) (As := [.int (nI 0)]) (rest := []) X w f8 rfl (c_SB_setLength l G h (by assumption) (by assumption) (by assumption) (by assumption)) ok_SB_setLength ⟨mT_554, mT_555⟩ mT_996 ⟨by decide, by decide⟩ rfl hl.1 rfl (Nat.le_of_ble_eq_true rfl) d_p3m2_5 ⟨by decide, by decide⟩ (fun h2 H locs hp3 w => ?_)
  refine W.widen (k := 1) (n := 200) (by decide) (by decide) ?_
  obtain ⟨k18, f19⟩ := hp3
  have f20 := k18 _ _ hx0 (show (15 : Nat) ∉ [3, 4] by decide)
  have f21 := k18 _ _ hle (show (16 : Nat) ∉ [3, 4] by decide)
  have f22 := k18 _ _ hln (show (17 : Nat) ∉ [3, 4] by decide)
  have f23 := hS.kx k18 (show (0 : Nat) ∉ [3, 4] by decide)
  refine lv_aload_n hx hb d_p3m2_8 rfl (lv_at hl 0 rfl) ?_
  refine pd_get X w f20 rfl 2 (by decide) mT_351 rfl rfl d_p3m2_9 ?_
  refine lv_iload_n hx hb d_p3m2_12 rfl (lv_at hl 1 rfl) ?_
  obtain ⟨v27, cap28, g29, ml30, f31, f32, gf33, gc34, gn35, gp36, ft37, hz38, hz39⟩ := id f19
  refine pd_cV (a := dr) (As := [.int (nI nu)]) (rest := []) X w f31 rfl (c_SB_appendI l G h2 (by assumption) (by assumption) (by assumption) (by assumption) (by omega) (by simp only [List.length_append, List.length_cons, List.length_nil]; omega)) ok_SB_appendI ⟨mT_998, mT_999⟩ mT_997 ⟨by decide, by decide⟩ rfl hl.1 rfl (Nat.le_of_ble_eq_true rfl) d_p3m2_13 ⟨by decide, by decide⟩ (fun r24 h25 H locs hp26 w => ?_)
  refine W.widen (k := 2) (n := 400) (by decide) (by decide) ?_
  obtain ⟨e40, k41, f42⟩ := hp26
  have f43 := k41 _ _ f20 (show (15 : Nat) ∉ [3, 4] by decide)
  have f44 := k41 _ _ f21 (show (16 : Nat) ∉ [3, 4] by decide)
  have f45 := k41 _ _ f22 (show (17 : Nat) ∉ [3, 4] by decide)
  have f46 := f23.kx k41 (show (0 : Nat) ∉ [3, 4] by decide)
  subst e40
  refine lv_bipush (v := nI 32) hx hb d_p3m2_16 (by decide) ?_
  obtain ⟨v50, cap51, g52, ml53, f54, f55, gf56, gc57, gn58, gp59, ft60, hz61, hz62⟩ := id f42
  refine pd_cV (a := dr) (As := [.int (nI 32)]) (rest := []) X w f54 rfl (c_SB_appendC l G h25 (by assumption) (by assumption) (by assumption) (by assumption) (by omega) (by simp only [List.length_append, List.length_cons, List.length_nil]; omega)) ok_SB_appendC ⟨mT_416, mT_417⟩ mT_1022 ⟨by decide, by decide⟩ rfl hl.1 rfl (Nat.le_of_ble_eq_true rfl) d_p3m2_18 ⟨by decide, by decide⟩ (fun r47 h48 H locs hp49 w => ?_)
  refine W.widen (k := 3) (n := 600) (by decide) (by decide) ?_
  obtain ⟨e63, k64, f65⟩ := hp49
  have f66 := k64 _ _ f43 (show (15 : Nat) ∉ [3, 4] by decide)
  have f67 := k64 _ _ f44 (show (16 : Nat) ∉ [3, 4] by decide)
  have f68 := k64 _ _ f45 (show (17 : Nat) ∉ [3, 4] by decide)
  have f69 := f46.kx k64 (show (0 : Nat) ∉ [3, 4] by decide)
  subst e63
  refine lv_aload_n hx hb d_p3m2_21 rfl (lv_at hl 2 rfl) ?_
  obtain ⟨v73, cap74, g75, ml76, f77, f78, gf79, gc80, gn81, gp82, ft83, hz84, hz85⟩ := id f65
  refine pd_cV (a := dr) (As := [.ref a]) (rest := []) X w f77 rfl (c_SB_appendS l G h48 (by assumption) (by assumption) (by assumption) (by assumption) (by assumption) (by simp only [List.length_append, List.length_cons, List.length_nil]; omega)) ok_SB_appendS ⟨mT_1024, mT_1025⟩ mT_1023 ⟨by decide, by decide⟩ rfl hl.1 rfl (Nat.le_of_ble_eq_true rfl) d_p3m2_22 ⟨by decide, by decide⟩ (fun r70 h71 H locs hp72 w => ?_)
  refine W.widen (k := 4) (n := 800) (by decide) (by decide) ?_
  obtain ⟨e86, k87, f88⟩ := hp72
  have f89 := k87 _ _ f66 (show (15 : Nat) ∉ [3, 4] by decide)
  have f90 := k87 _ _ f67 (show (16 : Nat) ∉ [3, 4] by decide)
  have f91 := k87 _ _ f68 (show (17 : Nat) ∉ [3, 4] by decide)
  have f92 := f69.kx k87 (show (0 : Nat) ∉ [3, 4] by decide)
  subst e86
  refine lv_bipush (v := nI 32) hx hb d_p3m2_25 (by decide) ?_
  obtain ⟨v96, cap97, g98, ml99, f100, f101, gf102, gc103, gn104, gp105, ft106, hz107, hz108⟩ := id f88
  refine pd_cV (a := dr) (As := [.int (nI 32)]) (rest := []) X w f100 rfl (c_SB_appendC l G h71 (by assumption) (by assumption) (by assumption) (by assumption) (by omega) (by simp only [List.length_append, List.length_cons, List.length_nil]; omega)) ok_SB_appendC ⟨mT_416, mT_417⟩ mT_1022 ⟨by decide, by decide⟩ rfl hl.1 rfl (Nat.le_of_ble_eq_true rfl) d_p3m2_27 ⟨by decide, by decide⟩ (fun r93 h94 H locs hp95 w => ?_)
  refine W.widen (k := 5) (n := 1000) (by decide) (by decide) ?_
  obtain ⟨e109, k110, f111⟩ := hp95
  have f112 := k110 _ _ f89 (show (15 : Nat) ∉ [3, 4] by decide)
  have f113 := k110 _ _ f90 (show (16 : Nat) ∉ [3, 4] by decide)
  have f114 := k110 _ _ f91 (show (17 : Nat) ∉ [3, 4] by decide)
  have f115 := f92.kx k110 (show (0 : Nat) ∉ [3, 4] by decide)
  subst e109
  refine lv_iload_n hx hb d_p3m2_30 rfl (lv_at hl 3 rfl) ?_
  refine pd_cS (As := [.int ans]) (rest := [.ref dr]) X w (c_Audit_outcomeOf l G h94) ok_Audit_outcomeOf mT_1054 mT_1053 ⟨by decide, by decide⟩ rfl hl.1 rfl (Nat.le_of_ble_eq_true rfl) d_p3m2_31 ⟨by decide, by decide⟩ (fun r116 h117 H locs hp118 w => ?_)
  refine W.widen (k := 5) (n := 1000) (by decide) (by decide) ?_
  obtain ⟨k119, ds120, e121, f122⟩ := hp118
  have f130 := k119 _ _ f112 List.not_mem_nil
  have f131 := k119 _ _ f113 List.not_mem_nil
  have f132 := k119 _ _ f114 List.not_mem_nil
  have f133 := f115.kx k119 List.not_mem_nil
  have f134 := f111.kx k119 List.not_mem_nil List.not_mem_nil
  obtain ⟨v123, g124, f125, f126, gf127, gc128, gl129⟩ := id f122
  have hol : ds120.length ≤ 9 := by rw [e121]; exact gr_ow_len _
  obtain ⟨v138, cap139, g140, ml141, f142, f143, gf144, gc145, gn146, gp147, ft148, hz149, hz150⟩ := id f134
  refine pd_cV (a := dr) (As := [.ref r116]) (rest := []) X w f142 rfl (c_SB_appendS l G h117 (by assumption) (by assumption) (by assumption) (by assumption) (by assumption) (by simp only [List.length_append, List.length_cons, List.length_nil]; omega)) ok_SB_appendS ⟨mT_1024, mT_1025⟩ mT_1023 ⟨by decide, by decide⟩ rfl hl.1 rfl (Nat.le_of_ble_eq_true rfl) d_p3m2_34 ⟨by decide, by decide⟩ (fun r135 h136 H locs hp137 w => ?_)
  refine W.widen (k := 6) (n := 1200) (by decide) (by decide) ?_
  obtain ⟨e151, k152, f153⟩ := hp137
  have f154 := k152 _ _ f130 (show (15 : Nat) ∉ [3, 4] by decide)
  have f155 := k152 _ _ f125 (show (0 : Nat) ∉ [3, 4] by decide)
  have f156 := k152 _ _ f131 (show (16 : Nat) ∉ [3, 4] by decide)
  have f157 := k152 _ _ f132 (show (17 : Nat) ∉ [3, 4] by decide)
  have f158 := k152 _ _ f126 (show (0 : Nat) ∉ [3, 4] by decide)
  have f159 := f133.kx k152 (show (0 : Nat) ∉ [3, 4] by decide)
  have f160 := f122.kx k152 (show (0 : Nat) ∉ [3, 4] by decide)
  subst e151
  refine lv_pop hx hb d_p3m2_37 rfl ?_
  refine lv_iload_n hx hb d_p3m2_38 rfl (lv_at hl 3 rfl) ?_
  refine lv_sipush (v := nI 10000) hx hb d_p3m2_39 (by decide) ?_
  refine lv_icmp_lt (tgt := 61) hx hb d_p3m2_42 (by decide) (fun q161 => ?_) (fun q161 => ?_)
  · -- taken: 61
    refine lv_iload_n hx hb d_p3m2_61 rfl (lv_at hl 3 rfl) ?_
    refine lv_if_lt (tgt := 74) hx hb d_p3m2_62 (by decide) (fun q162 => ?_) (fun q162 => ?_)
    · -- taken: 74
      have hod : gr_od ans = [] := gr_od_n q162 q161
      have hatx : gr_atx nu cs ans = [] ++ gr_dig nu ++ [32] ++ cs ++ [32] ++ ds120 := by unfold gr_atx; rw [hod, ← e121]; simp
      have f163 : pd_SB G h136 dr 3 4 (gr_atx nu cs ans) := by rw [hatx]; exact f153
      have hatl : (gr_atx nu cs ans).length ≤ 96 := by rw [hatx]; simp only [List.length_append, List.length_cons, List.length_nil]; omega
      refine lv_aload_n hx hb d_p3m2_74 rfl (lv_at hl 0 rfl) ?_
      refine pd_get X w f154 rfl 1 (by decide) mT_350 rfl rfl d_p3m2_75 ?_
      refine lv_aload_n hx hb d_p3m2_78 rfl (lv_at hl 0 rfl) ?_
      refine pd_get X w f154 rfl 4 (by decide) mT_353 rfl rfl d_p3m2_79 ?_
      refine lv_aload_n hx hb d_p3m2_82 rfl (lv_at hl 0 rfl) ?_
      refine pd_get X w f154 rfl 2 (by decide) mT_351 rfl rfl d_p3m2_83 ?_
      obtain ⟨v167, cap168, g169, ml170, f171, f172, gf173, gc174, gn175, gp176, ft177, hz178, hz179⟩ := id f163
      refine pd_cV (a := dr) (As := []) (rest := [.int (nI nx), .ref ln]) X w f171 rfl (c_StringBuilder_length l G h136 (by assumption) (by assumption) (by assumption) (by assumption) (by assumption) (by assumption) (by assumption) (by assumption)) ok_StringBuilder_length ⟨mT_409, mT_410⟩ mT_1062 ⟨by decide, by decide⟩ rfl hl.1 rfl (Nat.le_of_ble_eq_true rfl) d_p3m2_86 ⟨by decide, by decide⟩ (fun r164 h165 H locs hp166 w => ?_)
      refine W.widen (k := 6) (n := 1200) (by decide) (by decide) ?_
      obtain ⟨e180, rfl⟩ := hp166
      refine lv_bipush (v := nI 96) hx hb d_p3m2_89 (by decide) ?_
      refine pd_mmin X hl.1 (by omega) (by omega) mT_1063 mT_245 mT_15 mT_246 (by decide) (Nat.le_of_ble_eq_true rfl) (by decide) (by decide) d_p3m2_91 ?_
      refine pd_top (v' := .int (nI ((gr_atx nu cs ans).length))) (by rw [e180, Nat.min_eq_left hatl]) ?_
      refine pd_iast X w f157 hz_ln (by omega) (by omega) d_p3m2_94 (fun H locs w => ?_)
      have w : pd_w G s H locs (pd_up h136 ln (17, .inl (.int, 12, .inl (upd g nx (nI ((gr_atx nu cs ans).length)))))) := w
      obtain ⟨h181, u184⟩ : ∃ z, z = pd_up h136 ln (17, .inl (.int, 12, .inl (upd g nx (nI ((gr_atx nu cs ans).length))))) := ⟨_, rfl⟩
      rw [← u184] at w
      have k182 : pd_kq ln h136 h181 := by rw [u184]; exact pd_up_kq
      have f183 : h181 ln = some (17, .inl (.int, 12, .inl (upd g nx (nI ((gr_atx nu cs ans).length))))) := by rw [u184]; exact pd_up_s _ _ _
      have f185 := k182 _ _ (pd_ne f154 f157 (by simp)) f154
      have f186 := k182 _ _ (pd_ne f155 f157 (by simp)) f155
      have f187 := k182 _ _ (pd_ne f171 f157 (by simp)) f171
      have f188 := k182 _ _ (pd_ne f156 f157 (by simp)) f156
      have f189 := k182 _ _ (pd_ne f158 f157 (by simp)) f158
      have f190 := k182 _ _ (pd_ne f172 f157 (by simp)) f172
      have f191 := f159.kx (pd_kq.kx k182 f157) (show (0 : Nat) ∉ [17] by decide)
      have f192 : pd_Str h181 r116 ds120 := ⟨_, _, f186, f189, gf127, gc128, gl129⟩
      have f193 := f163.kx (pd_kq.kx k182 f157) (show (3 : Nat) ∉ [17] by decide) (show (4 : Nat) ∉ [17] by decide)
      refine lv_iconst (v := nI 0) hx hb d_p3m2_95 (by decide) ?_
      refine lv_istore (lv' := [(4, .int (nI 0)), (0, .ref x), (1, .int (nI nu)), (2, .ref a), (3, .int ans)]) hx hb d_p3m2_96 hl (by decide) rfl (fun ls hl => ?_)
      exact lp_Audit_write_98 l G h hA hnu hS hans X hmn (100 + 1) 0 f h181 6 1200 le ln dr f g (hatl) (by omega) (by omega) (by omega) (hT) (hz_le) (hz_ln) (pd_kx.mono (us := [3, 4, 15, 16, 17]) (pd_kx.tr (pd_kx.mono (us := [3, 4, 17]) (pd_kx.tr (pd_kx.tr (pd_kx.tr (pd_kx.tr (pd_kx.tr (pd_kx.tr (k18) (k41)) (k64)) (k87)) (k110)) (pd_kx.mono (us := [3, 4]) (k119) (by simp))) (k152)) (by simp)) (pd_kx.mono (us := [3, 4, 17]) (pd_kq.kx (k182) f157) (by simp))) (by simp)) (f185) (f188) (f183) (f193) (fun j hj => absurd hj (Nat.not_lt_zero j)) (fun y _ => rfl) (by omega) _ _ w ls (lv_sub hl [0, 1, 2, 3, 4] rfl)
    · -- not taken: 65
      obtain ⟨n9, hn9, hna⟩ := gr_aok_p hans q161 q162
      refine lv_aload_n hx hb d_p3m2_65 rfl (lv_at hl 0 rfl) ?_
      refine pd_get X w f154 rfl 2 (by decide) mT_351 rfl rfl d_p3m2_66 ?_
      refine lv_iload_n hx hb d_p3m2_69 rfl (lv_at hl 3 rfl) ?_
      refine pd_top (v' := .int (nI n9)) (by rw [hna]) ?_
      obtain ⟨v197, cap198, g199, ml200, f201, f202, gf203, gc204, gn205, gp206, ft207, hz208, hz209⟩ := id f153
      refine pd_cV (a := dr) (As := [.int (nI n9)]) (rest := []) X w f201 rfl (c_SB_appendI l G h136 (by assumption) (by assumption) (by assumption) (by assumption) (by omega) (by simp only [List.length_append, List.length_cons, List.length_nil]; omega)) ok_SB_appendI ⟨mT_998, mT_999⟩ mT_997 ⟨by decide, by decide⟩ rfl hl.1 rfl (Nat.le_of_ble_eq_true rfl) d_p3m2_70 ⟨by decide, by decide⟩ (fun r194 h195 H locs hp196 w => ?_)
      refine W.widen (k := 7) (n := 1400) (by decide) (by decide) ?_
      obtain ⟨e210, k211, f212⟩ := hp196
      have f213 := k211 _ _ f154 (show (15 : Nat) ∉ [3, 4] by decide)
      have f214 := k211 _ _ f155 (show (0 : Nat) ∉ [3, 4] by decide)
      have f215 := k211 _ _ f156 (show (16 : Nat) ∉ [3, 4] by decide)
      have f216 := k211 _ _ f157 (show (17 : Nat) ∉ [3, 4] by decide)
      have f217 := k211 _ _ f158 (show (0 : Nat) ∉ [3, 4] by decide)
      have f218 := f159.kx k211 (show (0 : Nat) ∉ [3, 4] by decide)
      have f219 := f160.kx k211 (show (0 : Nat) ∉ [3, 4] by decide)
      subst e210
      refine lv_pop hx hb d_p3m2_73 rfl ?_
      have hod : gr_od ans = gr_dig n9 := by rw [hna, gr_od_p hn9]
      have hd9 := gr_dig_len (x := n9)
      have hatx : gr_atx nu cs ans = [] ++ gr_dig nu ++ [32] ++ cs ++ [32] ++ ds120 ++ gr_dig n9 := by unfold gr_atx; rw [hod, ← e121]; simp
      have f220 : pd_SB G h195 dr 3 4 (gr_atx nu cs ans) := by rw [hatx]; exact f212
      have hatl : (gr_atx nu cs ans).length ≤ 96 := by rw [hatx]; simp only [List.length_append, List.length_cons, List.length_nil]; omega
      refine lv_aload_n hx hb d_p3m2_74 rfl (lv_at hl 0 rfl) ?_
      refine pd_get X w f213 rfl 1 (by decide) mT_350 rfl rfl d_p3m2_75 ?_
      refine lv_aload_n hx hb d_p3m2_78 rfl (lv_at hl 0 rfl) ?_
      refine pd_get X w f213 rfl 4 (by decide) mT_353 rfl rfl d_p3m2_79 ?_
      refine lv_aload_n hx hb d_p3m2_82 rfl (lv_at hl 0 rfl) ?_
      refine pd_get X w f213 rfl 2 (by decide) mT_351 rfl rfl d_p3m2_83 ?_
      obtain ⟨v224, cap225, g226, ml227, f228, f229, gf230, gc231, gn232, gp233, ft234, hz235, hz236⟩ := id f220
      refine pd_cV (a := dr) (As := []) (rest := [.int (nI nx), .ref ln]) X w f228 rfl (c_StringBuilder_length l G h195 (by assumption) (by assumption) (by assumption) (by assumption) (by assumption) (by assumption) (by assumption) (by assumption)) ok_StringBuilder_length ⟨mT_409, mT_410⟩ mT_1062 ⟨by decide, by decide⟩ rfl hl.1 rfl (Nat.le_of_ble_eq_true rfl) d_p3m2_86 ⟨by decide, by decide⟩ (fun r221 h222 H locs hp223 w => ?_)
      refine W.widen (k := 7) (n := 1400) (by decide) (by decide) ?_
      obtain ⟨e237, rfl⟩ := hp223
      refine lv_bipush (v := nI 96) hx hb d_p3m2_89 (by decide) ?_
      refine pd_mmin X hl.1 (by omega) (by omega) mT_1063 mT_245 mT_15 mT_246 (by decide) (Nat.le_of_ble_eq_true rfl) (by decide) (by decide) d_p3m2_91 ?_
      refine pd_top (v' := .int (nI ((gr_atx nu cs ans).length))) (by rw [e237, Nat.min_eq_left hatl]) ?_
      refine pd_iast X w f216 hz_ln (by omega) (by omega) d_p3m2_94 (fun H locs w => ?_)
      have w : pd_w G s H locs (pd_up h195 ln (17, .inl (.int, 12, .inl (upd g nx (nI ((gr_atx nu cs ans).length)))))) := w
      obtain ⟨h238, u241⟩ : ∃ z, z = pd_up h195 ln (17, .inl (.int, 12, .inl (upd g nx (nI ((gr_atx nu cs ans).length))))) := ⟨_, rfl⟩
      rw [← u241] at w
      have k239 : pd_kq ln h195 h238 := by rw [u241]; exact pd_up_kq
      have f240 : h238 ln = some (17, .inl (.int, 12, .inl (upd g nx (nI ((gr_atx nu cs ans).length))))) := by rw [u241]; exact pd_up_s _ _ _
      have f242 := k239 _ _ (pd_ne f213 f216 (by simp)) f213
      have f243 := k239 _ _ (pd_ne f214 f216 (by simp)) f214
      have f244 := k239 _ _ (pd_ne f228 f216 (by simp)) f228
      have f245 := k239 _ _ (pd_ne f215 f216 (by simp)) f215
      have f246 := k239 _ _ (pd_ne f217 f216 (by simp)) f217
      have f247 := k239 _ _ (pd_ne f229 f216 (by simp)) f229
      have f248 := f218.kx (pd_kq.kx k239 f216) (show (0 : Nat) ∉ [17] by decide)
      have f249 : pd_Str h238 r116 ds120 := ⟨_, _, f243, f246, gf127, gc128, gl129⟩
      have f250 := f220.kx (pd_kq.kx k239 f216) (show (3 : Nat) ∉ [17] by decide) (show (4 : Nat) ∉ [17] by decide)
      refine lv_iconst (v := nI 0) hx hb d_p3m2_95 (by decide) ?_
      refine lv_istore (lv' := [(4, .int (nI 0)), (0, .ref x), (1, .int (nI nu)), (2, .ref a), (3, .int ans)]) hx hb d_p3m2_96 hl (by decide) rfl (fun ls hl => ?_)
      exact lp_Audit_write_98 l G h hA hnu hS hans X hmn (100 + 1) 0 f h238 7 1400 le ln dr f g (hatl) (by omega) (by omega) (by omega) (hT) (hz_le) (hz_ln) (pd_kx.mono (us := [3, 4, 15, 16, 17]) (pd_kx.tr (pd_kx.mono (us := [3, 4, 17]) (pd_kx.tr (pd_kx.tr (pd_kx.tr (pd_kx.tr (pd_kx.tr (pd_kx.tr (pd_kx.tr (k18) (k41)) (k64)) (k87)) (k110)) (pd_kx.mono (us := [3, 4]) (k119) (by simp))) (k152)) (k211)) (by simp)) (pd_kx.mono (us := [3, 4, 17]) (pd_kq.kx (k239) f216) (by simp))) (by simp)) (f242) (f245) (f240) (f250) (fun j hj => absurd hj (Nat.not_lt_zero j)) (fun y _ => rfl) (by omega) _ _ w ls (lv_sub hl [0, 1, 2, 3, 4] rfl)
  · -- not taken: 45
    obtain ⟨n9, hn9, hna⟩ := gr_aok_s hans q161
    refine lv_aload_n hx hb d_p3m2_45 rfl (lv_at hl 0 rfl) ?_
    refine pd_get X w f154 rfl 2 (by decide) mT_351 rfl rfl d_p3m2_46 ?_
    refine lv_iload_n hx hb d_p3m2_49 rfl (lv_at hl 3 rfl) ?_
    refine lv_sipush (v := nI 10000) hx hb d_p3m2_50 (by decide) ?_
    refine lv_isub hx hb d_p3m2_53 ?_
    refine pd_top (v' := .int (nI n9)) (by rw [hna, pk_sub (by omega), show 10000 + n9 - 10000 = n9 by omega]) ?_
    obtain ⟨v254, cap255, g256, ml257, f258, f259, gf260, gc261, gn262, gp263, ft264, hz265, hz266⟩ := id f153
    refine pd_cV (a := dr) (As := [.int (nI n9)]) (rest := []) X w f258 rfl (c_SB_appendI l G h136 (by assumption) (by assumption) (by assumption) (by assumption) (by omega) (by simp only [List.length_append, List.length_cons, List.length_nil]; omega)) ok_SB_appendI ⟨mT_998, mT_999⟩ mT_997 ⟨by decide, by decide⟩ rfl hl.1 rfl (Nat.le_of_ble_eq_true rfl) d_p3m2_54 ⟨by decide, by decide⟩ (fun r251 h252 H locs hp253 w => ?_)
    refine W.widen (k := 7) (n := 1400) (by decide) (by decide) ?_
    obtain ⟨e267, k268, f269⟩ := hp253
    have f270 := k268 _ _ f154 (show (15 : Nat) ∉ [3, 4] by decide)
    have f271 := k268 _ _ f155 (show (0 : Nat) ∉ [3, 4] by decide)
    have f272 := k268 _ _ f156 (show (16 : Nat) ∉ [3, 4] by decide)
    have f273 := k268 _ _ f157 (show (17 : Nat) ∉ [3, 4] by decide)
    have f274 := k268 _ _ f158 (show (0 : Nat) ∉ [3, 4] by decide)
    have f275 := f159.kx k268 (show (0 : Nat) ∉ [3, 4] by decide)
    have f276 := f160.kx k268 (show (0 : Nat) ∉ [3, 4] by decide)
    subst e267
    refine lv_pop hx hb d_p3m2_57 rfl ?_
    refine lv_goto (tgt := 74) hx hb d_p3m2_58 (by decide) ?_
    have hod : gr_od ans = gr_dig n9 := by rw [hna, gr_od_s hn9]
    have hd9 := gr_dig_len (x := n9)
    have hatx : gr_atx nu cs ans = [] ++ gr_dig nu ++ [32] ++ cs ++ [32] ++ ds120 ++ gr_dig n9 := by unfold gr_atx; rw [hod, ← e121]; simp
    have f277 : pd_SB G h252 dr 3 4 (gr_atx nu cs ans) := by rw [hatx]; exact f269
    have hatl : (gr_atx nu cs ans).length ≤ 96 := by rw [hatx]; simp only [List.length_append, List.length_cons, List.length_nil]; omega
    refine lv_aload_n hx hb d_p3m2_74 rfl (lv_at hl 0 rfl) ?_
    refine pd_get X w f270 rfl 1 (by decide) mT_350 rfl rfl d_p3m2_75 ?_
    refine lv_aload_n hx hb d_p3m2_78 rfl (lv_at hl 0 rfl) ?_
    refine pd_get X w f270 rfl 4 (by decide) mT_353 rfl rfl d_p3m2_79 ?_
    refine lv_aload_n hx hb d_p3m2_82 rfl (lv_at hl 0 rfl) ?_
    refine pd_get X w f270 rfl 2 (by decide) mT_351 rfl rfl d_p3m2_83 ?_
    obtain ⟨v281, cap282, g283, ml284, f285, f286, gf287, gc288, gn289, gp290, ft291, hz292, hz293⟩ := id f277
    refine pd_cV (a := dr) (As := []) (rest := [.int (nI nx), .ref ln]) X w f285 rfl (c_StringBuilder_length l G h252 (by assumption) (by assumption) (by assumption) (by assumption) (by assumption) (by assumption) (by assumption) (by assumption)) ok_StringBuilder_length ⟨mT_409, mT_410⟩ mT_1062 ⟨by decide, by decide⟩ rfl hl.1 rfl (Nat.le_of_ble_eq_true rfl) d_p3m2_86 ⟨by decide, by decide⟩ (fun r278 h279 H locs hp280 w => ?_)
    refine W.widen (k := 7) (n := 1400) (by decide) (by decide) ?_
    obtain ⟨e294, rfl⟩ := hp280
    refine lv_bipush (v := nI 96) hx hb d_p3m2_89 (by decide) ?_
    refine pd_mmin X hl.1 (by omega) (by omega) mT_1063 mT_245 mT_15 mT_246 (by decide) (Nat.le_of_ble_eq_true rfl) (by decide) (by decide) d_p3m2_91 ?_
    refine pd_top (v' := .int (nI ((gr_atx nu cs ans).length))) (by rw [e294, Nat.min_eq_left hatl]) ?_
    refine pd_iast X w f273 hz_ln (by omega) (by omega) d_p3m2_94 (fun H locs w => ?_)
    have w : pd_w G s H locs (pd_up h252 ln (17, .inl (.int, 12, .inl (upd g nx (nI ((gr_atx nu cs ans).length)))))) := w
    obtain ⟨h295, u298⟩ : ∃ z, z = pd_up h252 ln (17, .inl (.int, 12, .inl (upd g nx (nI ((gr_atx nu cs ans).length))))) := ⟨_, rfl⟩
    rw [← u298] at w
    have k296 : pd_kq ln h252 h295 := by rw [u298]; exact pd_up_kq
    have f297 : h295 ln = some (17, .inl (.int, 12, .inl (upd g nx (nI ((gr_atx nu cs ans).length))))) := by rw [u298]; exact pd_up_s _ _ _
    have f299 := k296 _ _ (pd_ne f270 f273 (by simp)) f270
    have f300 := k296 _ _ (pd_ne f271 f273 (by simp)) f271
    have f301 := k296 _ _ (pd_ne f285 f273 (by simp)) f285
    have f302 := k296 _ _ (pd_ne f272 f273 (by simp)) f272
    have f303 := k296 _ _ (pd_ne f274 f273 (by simp)) f274
    have f304 := k296 _ _ (pd_ne f286 f273 (by simp)) f286
    have f305 := f275.kx (pd_kq.kx k296 f273) (show (0 : Nat) ∉ [17] by decide)
    have f306 : pd_Str h295 r116 ds120 := ⟨_, _, f300, f303, gf127, gc128, gl129⟩
    have f307 := f277.kx (pd_kq.kx k296 f273) (show (3 : Nat) ∉ [17] by decide) (show (4 : Nat) ∉ [17] by decide)
    refine lv_iconst (v := nI 0) hx hb d_p3m2_95 (by decide) ?_
    refine lv_istore (lv' := [(4, .int (nI 0)), (0, .ref x), (1, .int (nI nu)), (2, .ref a), (3, .int ans)]) hx hb d_p3m2_96 hl (by decide) rfl (fun ls hl => ?_)
    exact lp_Audit_write_98 l G h hA hnu hS hans X hmn (100 + 1) 0 f h295 7 1400 le ln dr f g (hatl) (by omega) (by omega) (by omega) (hT) (hz_le) (hz_ln) (pd_kx.mono (us := [3, 4, 15, 16, 17]) (pd_kx.tr (pd_kx.mono (us := [3, 4, 17]) (pd_kx.tr (pd_kx.tr (pd_kx.tr (pd_kx.tr (pd_kx.tr (pd_kx.tr (pd_kx.tr (k18) (k41)) (k64)) (k87)) (k110)) (pd_kx.mono (us := [3, 4]) (k119) (by simp))) (k152)) (k268)) (by simp)) (pd_kx.mono (us := [3, 4, 17]) (pd_kq.kx (k296) f273) (by simp))) (by simp)) (f299) (f302) (f297) (f307) (fun j hj => absurd hj (Nat.not_lt_zero j)) (fun y _ => rfl) (by omega) _ _ w ls (lv_sub hl [0, 1, 2, 3, 4] rfl)
