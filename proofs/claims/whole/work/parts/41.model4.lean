section PDLC
variable {p : Program} {l : Launch} {e : Env} {R : Room} {s : State} {m : MethodId} {args : Array Value} {below : List Frame} {meth : Method} {c : Code} {H : Heap} {locs : List Loc} {cells slots : Nat} {Q : State → Prop}
variable {cc : ByteArray} {pc : Nat} {ls : Array Slot} {rest : List Value}
theorem pd_lcmp (hexec : p.tables.exec = Jvm.exec) (hb : c.code = cc) {x y : Int64} (hdg : decode cc pc = .ok (.lcmp, 1))
    (k : W p l e R s m args below meth c H locs cells slots Q (F0 m (pc + 1) ls (.int (if x > y then 1 else if x == y then 0 else -1) :: rest))) : W p l e R s m args below meth c H locs cells slots Q (F0 m pc ls (.long y :: .long x :: rest)) := by
  intro T hT X
  obtain ⟨t, a, b⟩ := k T hT X
  refine ⟨t, ?_, b⟩
  jvm_step X.here [X.here.top, hexec, hb, hdg]
  by_cases h1 : y < x
  · rw [if_pos h1]
    rw [if_pos (show x > y from h1)] at a
    exact a
  · rw [if_neg h1]
    rw [if_neg (show ¬ x > y from h1)] at a
    by_cases h2 : x = y
    · rw [if_pos h2]
      rw [if_pos (by simpa using h2)] at a
      exact a
    · rw [if_neg h2]
      rw [if_neg (by simpa using h2)] at a
      exact a
end PDLC
theorem pd_lc0 {x : Int64} : (if x > 0 then (1 : Int32) else if x == 0 then 0 else -1) = 0 ↔ x = 0 := by
  by_cases h1 : x > 0
  · rw [if_pos h1]
    constructor
    · intro z
      exact absurd z (by decide)
    · intro z
      subst z
      exact absurd h1 (by decide)
  · rw [if_neg h1]
    by_cases h2 : x = 0
    · subst h2
      simp
    · rw [if_neg (by simpa using h2)]
      constructor
      · intro z
        exact absurd z (by decide)
      · intro z
        exact absurd z h2
theorem gm_o1 (x : Int64) : x.toInt32.toBitVec.toNat % 256 = x.toBitVec.toNat % 256 := by
  rw [Int64.toBitVec_toInt32, BitVec.signExtend_eq_setWidth_of_le _ (by decide), BitVec.toNat_setWidth]
  omega
theorem gm_o2 (x : Int64) : x &&& 255 = 0 ↔ x.toBitVec.toNat % 256 = 0 := by
  have h : (x &&& 255).toBitVec.toNat = x.toBitVec.toNat % 256 := by
    rw [Int64.toBitVec_and, BitVec.toNat_and, show (255 : Int64).toBitVec.toNat = 2 ^ 8 - 1 from rfl, Nat.and_two_pow_sub_one_eq_mod]
  constructor
  · intro z
    rw [z] at h
    exact h.symm
  · intro z
    rw [z] at h
    exact Int64.toBitVec_inj.mp (BitVec.eq_of_toNat_eq h)
theorem gm_o3 (wd : Int64) (i : Nat) : (gr_sh wd i &&& 255).toInt32 = nI (gr_oct wd i) := by
  rw [gm_oct]
  unfold gr_oct
  rw [gm_o1]
theorem gm_o4 (wd : Int64) (i : Nat) : gr_sh wd i &&& 255 = 0 ↔ gr_oct wd i = 0 := by
  unfold gr_oct
  rw [gm_o1]
  exact gm_o2 _
theorem gm_tlt {cs : List Nat} {wd : Int64} (h : ∀ x ∈ cs, x < 256) : ∀ x ∈ (gr_text cs wd).2, x < 256 := by
  unfold gr_text
  split
  · exact h
  · split
    · exact h
    · intro x hx
      rcases List.mem_append.mp hx with z | z
      · exact h x z
      · obtain ⟨k, _, rfl⟩ := List.mem_map.mp z
        exact gr_oct_lt wd k
theorem pd_MO.fu2 {G : pd_G} {h : pd_H} {y : Nat} {ad : Nat → Nat} {fv : Nat → Nat → Int32} {iv : Nat → Int32} {tl : Int64} {k : Nat} {f g : Nat → Int32} (q : pd_MO G h y ad (pd_fu (pd_fu fv k f) k g) iv tl) : pd_MO G h y ad (pd_fu fv k g) iv tl := by
  have e : pd_fu (pd_fu fv k f) k g = pd_fu fv k g := by
    funext j
    by_cases z : j = k
    · rw [z, pd_fu_s, pd_fu_s]
    · rw [pd_fu_n z, pd_fu_n z, pd_fu_n z]
  rw [← e]
  exact q
theorem gm_txt {cs : List Nat} {wd : Int64} {i : Nat} {f0 : Nat → Int32} (h1 : ∀ t, t < cs.length → f0 t = nI (cs.getD t 0)) (h2 : ∀ t, t < i → f0 (cs.length + t) = nI (gr_oct wd t)) : ∀ t, t < (cs ++ (List.range i).map (gr_oct wd)).length → f0 t = nI ((cs ++ (List.range i).map (gr_oct wd)).getD t 0) := by
  intro t ht
  rw [List.length_append, List.length_map, List.length_range] at ht
  by_cases z : t < cs.length
  · rw [tx_app_get z, h1 t z]
  · rw [tx_app_get2 (by omega)]
    have h3 := h2 (t - cs.length) (by omega)
    rw [show cs.length + (t - cs.length) = t by omega] at h3
    rw [h3, List.getD_eq_getElem?_getD, List.getElem?_map, List.getElem?_range (by omega)]
    rfl
theorem d_p15m4_0 : decode prog_15_method_4_code 0 = .ok (.iconst 0, 1) := by decide +kernel
theorem d_p15m4_1 : decode prog_15_method_4_code 1 = .ok (.istore_n 3, 1) := by decide +kernel
theorem d_p15m4_2 : decode prog_15_method_4_code 2 = .ok (.iload_n 3, 1) := by decide +kernel
theorem d_p15m4_3 : decode prog_15_method_4_code 3 = .ok (.bipush 8, 2) := by decide +kernel
theorem d_p15m4_5 : decode prog_15_method_4_code 5 = .ok (.if_icmp .ge 51, 3) := by decide +kernel
theorem d_p15m4_8 : decode prog_15_method_4_code 8 = .ok (.lload_n 1, 1) := by decide +kernel
theorem d_p15m4_9 : decode prog_15_method_4_code 9 = .ok (.bipush 8, 2) := by decide +kernel
theorem d_p15m4_11 : decode prog_15_method_4_code 11 = .ok (.iload_n 3, 1) := by decide +kernel
theorem d_p15m4_12 : decode prog_15_method_4_code 12 = .ok (.imul, 1) := by decide +kernel
theorem d_p15m4_13 : decode prog_15_method_4_code 13 = .ok (.lushr, 1) := by decide +kernel
theorem d_p15m4_14 : decode prog_15_method_4_code 14 = .ok (.ldc2_w 107, 3) := by decide +kernel
theorem d_p15m4_17 : decode prog_15_method_4_code 17 = .ok (.land, 1) := by decide +kernel
theorem d_p15m4_18 : decode prog_15_method_4_code 18 = .ok (.lconst 0, 1) := by decide +kernel
theorem d_p15m4_19 : decode prog_15_method_4_code 19 = .ok (.lcmp, 1) := by decide +kernel
theorem d_p15m4_20 : decode prog_15_method_4_code 20 = .ok (.ifCond .eq 36, 3) := by decide +kernel
theorem d_p15m4_23 : decode prog_15_method_4_code 23 = .ok (.lload_n 1, 1) := by decide +kernel
theorem d_p15m4_24 : decode prog_15_method_4_code 24 = .ok (.bipush 8, 2) := by decide +kernel
theorem d_p15m4_26 : decode prog_15_method_4_code 26 = .ok (.iload_n 3, 1) := by decide +kernel
theorem d_p15m4_27 : decode prog_15_method_4_code 27 = .ok (.imul, 1) := by decide +kernel
theorem d_p15m4_28 : decode prog_15_method_4_code 28 = .ok (.lushr, 1) := by decide +kernel
theorem d_p15m4_29 : decode prog_15_method_4_code 29 = .ok (.ldc2_w 107, 3) := by decide +kernel
theorem d_p15m4_32 : decode prog_15_method_4_code 32 = .ok (.land, 1) := by decide +kernel
theorem d_p15m4_33 : decode prog_15_method_4_code 33 = .ok (.l2i, 1) := by decide +kernel
theorem d_p15m4_34 : decode prog_15_method_4_code 34 = .ok (.istore 4, 2) := by decide +kernel
theorem d_p15m4_36 : decode prog_15_method_4_code 36 = .ok (.iload 4, 2) := by decide +kernel
theorem d_p15m4_38 : decode prog_15_method_4_code 38 = .ok (.bipush 32, 2) := by decide +kernel
theorem d_p15m4_40 : decode prog_15_method_4_code 40 = .ok (.bipush 126, 2) := by decide +kernel
theorem d_p15m4_42 : decode prog_15_method_4_code 42 = .ok (.invokestatic 109, 3) := by decide +kernel
theorem d_p15m4_45 : decode prog_15_method_4_code 45 = .ok (.ifCond .ne 5, 3) := by decide +kernel
theorem d_p15m4_48 : decode prog_15_method_4_code 48 = .ok (.iconst (-1), 1) := by decide +kernel
theorem d_p15m4_49 : decode prog_15_method_4_code 49 = .ok (.ireturn, 1) := by decide +kernel
theorem d_p15m4_50 : decode prog_15_method_4_code 50 = .ok (.iinc 3 1, 3) := by decide +kernel
theorem d_p15m4_53 : decode prog_15_method_4_code 53 = .ok (.goto (-51), 3) := by decide +kernel
theorem d_p15m4_56 : decode prog_15_method_4_code 56 = .ok (.iload_n 3, 1) := by decide +kernel
theorem d_p15m4_57 : decode prog_15_method_4_code 57 = .ok (.ifCond .ne 5, 3) := by decide +kernel
theorem d_p15m4_60 : decode prog_15_method_4_code 60 = .ok (.iconst (-1), 1) := by decide +kernel
theorem d_p15m4_61 : decode prog_15_method_4_code 61 = .ok (.ireturn, 1) := by decide +kernel
theorem d_p15m4_62 : decode prog_15_method_4_code 62 = .ok (.aload_n 0, 1) := by decide +kernel
theorem d_p15m4_63 : decode prog_15_method_4_code 63 = .ok (.getfield 113, 3) := by decide +kernel
theorem d_p15m4_66 : decode prog_15_method_4_code 66 = .ok (.iload_n 3, 1) := by decide +kernel
theorem d_p15m4_67 : decode prog_15_method_4_code 67 = .ok (.iadd, 1) := by decide +kernel
theorem d_p15m4_68 : decode prog_15_method_4_code 68 = .ok (.bipush 60, 2) := by decide +kernel
theorem d_p15m4_70 : decode prog_15_method_4_code 70 = .ok (.if_icmp .le 6, 3) := by decide +kernel
theorem d_p15m4_73 : decode prog_15_method_4_code 73 = .ok (.bipush (-5), 2) := by decide +kernel
theorem d_p15m4_75 : decode prog_15_method_4_code 75 = .ok (.ireturn, 1) := by decide +kernel
theorem d_p15m4_76 : decode prog_15_method_4_code 76 = .ok (.iconst 0, 1) := by decide +kernel
theorem d_p15m4_77 : decode prog_15_method_4_code 77 = .ok (.istore 4, 2) := by decide +kernel
theorem d_p15m4_79 : decode prog_15_method_4_code 79 = .ok (.iload 4, 2) := by decide +kernel
theorem d_p15m4_81 : decode prog_15_method_4_code 81 = .ok (.iload_n 3, 1) := by decide +kernel
theorem d_p15m4_82 : decode prog_15_method_4_code 82 = .ok (.if_icmp .ge 33, 3) := by decide +kernel
theorem d_p15m4_85 : decode prog_15_method_4_code 85 = .ok (.aload_n 0, 1) := by decide +kernel
theorem d_p15m4_86 : decode prog_15_method_4_code 86 = .ok (.getfield 7, 3) := by decide +kernel
theorem d_p15m4_89 : decode prog_15_method_4_code 89 = .ok (.aload_n 0, 1) := by decide +kernel
theorem d_p15m4_90 : decode prog_15_method_4_code 90 = .ok (.getfield 113, 3) := by decide +kernel
theorem d_p15m4_93 : decode prog_15_method_4_code 93 = .ok (.iload 4, 2) := by decide +kernel
theorem d_p15m4_95 : decode prog_15_method_4_code 95 = .ok (.iadd, 1) := by decide +kernel
theorem d_p15m4_96 : decode prog_15_method_4_code 96 = .ok (.lload_n 1, 1) := by decide +kernel
theorem d_p15m4_97 : decode prog_15_method_4_code 97 = .ok (.bipush 8, 2) := by decide +kernel
theorem d_p15m4_99 : decode prog_15_method_4_code 99 = .ok (.iload 4, 2) := by decide +kernel
theorem d_p15m4_101 : decode prog_15_method_4_code 101 = .ok (.imul, 1) := by decide +kernel
theorem d_p15m4_102 : decode prog_15_method_4_code 102 = .ok (.lushr, 1) := by decide +kernel
theorem d_p15m4_103 : decode prog_15_method_4_code 103 = .ok (.ldc2_w 107, 3) := by decide +kernel
theorem d_p15m4_106 : decode prog_15_method_4_code 106 = .ok (.land, 1) := by decide +kernel
theorem d_p15m4_107 : decode prog_15_method_4_code 107 = .ok (.l2i, 1) := by decide +kernel
theorem d_p15m4_108 : decode prog_15_method_4_code 108 = .ok (.iastore, 1) := by decide +kernel
theorem d_p15m4_109 : decode prog_15_method_4_code 109 = .ok (.iinc 4 1, 3) := by decide +kernel
theorem d_p15m4_112 : decode prog_15_method_4_code 112 = .ok (.goto (-33), 3) := by decide +kernel
theorem d_p15m4_115 : decode prog_15_method_4_code 115 = .ok (.aload_n 0, 1) := by decide +kernel
theorem d_p15m4_116 : decode prog_15_method_4_code 116 = .ok (.dup, 1) := by decide +kernel
theorem d_p15m4_117 : decode prog_15_method_4_code 117 = .ok (.getfield 113, 3) := by decide +kernel
theorem d_p15m4_120 : decode prog_15_method_4_code 120 = .ok (.iload_n 3, 1) := by decide +kernel
theorem d_p15m4_121 : decode prog_15_method_4_code 121 = .ok (.iadd, 1) := by decide +kernel
theorem d_p15m4_122 : decode prog_15_method_4_code 122 = .ok (.putfield 113, 3) := by decide +kernel
theorem d_p15m4_125 : decode prog_15_method_4_code 125 = .ok (.aload_n 0, 1) := by decide +kernel
theorem d_p15m4_126 : decode prog_15_method_4_code 126 = .ok (.getfield 113, 3) := by decide +kernel
theorem d_p15m4_129 : decode prog_15_method_4_code 129 = .ok (.ireturn, 1) := by decide +kernel
abbrev y_Mod_text : MethodName := ⟨"PolicyDeskModel", "text", "(J)I"⟩
theorem ok_Mod_text : pd_ok y_Mod_text prog_15_method_4_code 5 (some .int) 1 := ⟨mT_1276, mT_21, by decide, by decide +kernel⟩
abbrev rm_Mod_text : Room := { frames := 1, cells := 0, slots := 0, locals := 22 }
set_option maxHeartbeats 4000000 in
set_option maxRecDepth 100000 in
theorem lp_Mod_text_79 (l : Launch) (G : pd_G) (h : pd_H) {y : Nat} {ad : Nat → Nat} {fv : Nat → Nat → Int32} {iv : Nat → Int32} {tl : Int64} {cs : List Nat} {wd : Int64} (hMO : pd_MO G h y ad fv iv tl) (hL : gm_L fv iv cs) {p : Program} {e : Env} {s : State} {m : MethodId} {below : List Frame} {meth : Method} {c : Code} (X : pd_B p s m [.ref y, .long wd].toArray meth c G y_Mod_text.cls prog_15_method_4_code 5 (some .int)) (hmn : meth.name = y_Mod_text.name) :
    ∀ (kk9 : Nat) (j : Nat) (i : Nat) (f0 : Nat → Int32) (hh : pd_H), (gr_lin wd 8 0 = i) → (0 < i ∧ i ≤ 8 ∧ cs.length + i ≤ 60) → (j ≤ i) → (pd_kx [20, 30] h hh) → (pd_MO G hh y ad (pd_fu fv 0 f0) iv tl) → (∀ t, t < cs.length → f0 t = nI (cs.getD t 0)) → (∀ t, t < j → f0 (cs.length + t) = nI (gr_oct wd t)) → i - j < kk9 → ∀ (H : Heap) (locs : List Loc), pd_w G s H locs hh → ∀ ls : Array Slot, lv_has ls 5 [(4, .int (nI j)), (3, .int (nI i)), (0, .ref y), (1, .long wd)] → W p l e rm_Mod_text s m [.ref y, .long wd].toArray below meth c H locs 0 0 (MQ below (pd_Q G Value.int (fun r h1 => r = (gr_text cs wd).1 ∧ pd_kx [20, 30] h h1 ∧ ∃ f0 v3, pd_MO G h1 y ad (pd_fu fv 0 f0) (pd_fu iv 3 v3) tl ∧ gm_L (pd_fu fv 0 f0) (pd_fu iv 3 v3) (gr_text cs wd).2)) [.ref y, .long wd].toArray s rm_Mod_text.cells rm_Mod_text.slots (fun q => G.2.1 ≤ q)) (F0 m 79 ls []) := by
  have hx := X.1
  have hb := X.2.1
  have hz_y := hMO.2.1
  have hy0 : h y = some (20, .inr (10, [.ref (ad 0), .ref (ad 1), .ref (ad 2), .int (iv 3), .int (iv 4), .int (iv 5), .ref (ad 6), .ref (ad 7), .ref (ad 8), .ref (ad 9), .ref (ad 10), .ref (ad 11), .int (iv 12), .ref (ad 13), .ref (ad 14), .ref (ad 15), .ref (ad 16), .ref (ad 17), .ref (ad 18), .ref (ad 19), .int (iv 20), .ref (ad 21), .ref (ad 22), .ref (ad 23), .ref (ad 24), .ref (ad 25), .ref (ad 26), .ref (ad 27), .ref (ad 28), .int (iv 29), .ref (ad 30), .ref (ad 31), .int (iv 32), .int (iv 33), .int (iv 34), .int (iv 35), .long tl, .int (iv 37), .int (iv 38), .int (iv 39), .int (iv 40), .ref (ad 41), .ref (ad 42), .int (iv 43)])) := hMO.1
  have ha0 : h (ad 0) = some (30, .inl (.int, 60, .inl (fv 0))) := (hMO.2.2 0 (by decide)).1
  obtain ⟨hiv3, hln, hl60, hlc⟩ := id hL
  intro kk9
  induction kk9 with
  | zero => intros; omega
  | succ kk9 ih =>
    intro j i f0 hh hlin hib hjb hk2 hMO2 hf1 hf2 hmu H locs w ls hl
    have hz_y := hMO2.2.1
    have hy2 : hh y = some (20, .inr (10, [.ref (ad 0), .ref (ad 1), .ref (ad 2), .int (iv 3), .int (iv 4), .int (iv 5), .ref (ad 6), .ref (ad 7), .ref (ad 8), .ref (ad 9), .ref (ad 10), .ref (ad 11), .int (iv 12), .ref (ad 13), .ref (ad 14), .ref (ad 15), .ref (ad 16), .ref (ad 17), .ref (ad 18), .ref (ad 19), .int (iv 20), .ref (ad 21), .ref (ad 22), .ref (ad 23), .ref (ad 24), .ref (ad 25), .ref (ad 26), .ref (ad 27), .ref (ad 28), .int (iv 29), .ref (ad 30), .ref (ad 31), .int (iv 32), .int (iv 33), .int (iv 34), .int (iv 35), .long tl, .int (iv 37), .int (iv 38), .int (iv 39), .int (iv 40), .ref (ad 41), .ref (ad 42), .int (iv 43)])) := hMO2.1
    have ha0 : hh (ad 0) = some (30, .inl (.int, 60, .inl (f0))) := (hMO2.2.2 0 (by decide)).1
    refine lv_iload hx hb d_p15m4_79 (lv_at hl 0 rfl) ?_
    refine lv_iload_n hx hb d_p15m4_81 rfl (lv_at hl 1 rfl) ?_
    refine pd_jge (tgt := 115) hx hb d_p15m4_82 (by decide) (by omega) (by omega) (fun q1 => ?_) (fun q1 => ?_)
    · -- taken: 115
      refine lv_aload_n hx hb d_p15m4_115 rfl (lv_at hl 2 rfl) ?_
      refine lv_dup hx hb d_p15m4_116 rfl ?_
      refine pd_get X w hy2 rfl 3 (by decide) mT_1142 rfl rfl d_p15m4_117 ?_
      refine pd_top (v' := .int (nI cs.length)) (congrArg Value.int hiv3) ?_
      refine lv_iload_n hx hb d_p15m4_120 rfl (lv_at hl 1 rfl) ?_
      refine pd_iadd hx hb d_p15m4_121 ?_
      refine pd_put (ty := .int) X w hy2 hz_y rfl 3 (by decide) mT_1142 rfl rfl (by decide +kernel) rfl rfl (Nat.le_of_ble_eq_true rfl) d_p15m4_122 (fun H locs w => ?_)
      have w : pd_w G s H locs (pd_up hh y (20, .inr (10, [.ref (ad 0), .ref (ad 1), .ref (ad 2), .int (nI (cs.length + i)), .int (iv 4), .int (iv 5), .ref (ad 6), .ref (ad 7), .ref (ad 8), .ref (ad 9), .ref (ad 10), .ref (ad 11), .int (iv 12), .ref (ad 13), .ref (ad 14), .ref (ad 15), .ref (ad 16), .ref (ad 17), .ref (ad 18), .ref (ad 19), .int (iv 20), .ref (ad 21), .ref (ad 22), .ref (ad 23), .ref (ad 24), .ref (ad 25), .ref (ad 26), .ref (ad 27), .ref (ad 28), .int (iv 29), .ref (ad 30), .ref (ad 31), .int (iv 32), .int (iv 33), .int (iv 34), .int (iv 35), .long tl, .int (iv 37), .int (iv 38), .int (iv 39), .int (iv 40), .ref (ad 41), .ref (ad 42), .int (iv 43)]))) := w
      obtain ⟨h2, u5⟩ : ∃ z, z = pd_up hh y (20, .inr (10, [.ref (ad 0), .ref (ad 1), .ref (ad 2), .int (nI (cs.length + i)), .int (iv 4), .int (iv 5), .ref (ad 6), .ref (ad 7), .ref (ad 8), .ref (ad 9), .ref (ad 10), .ref (ad 11), .int (iv 12), .ref (ad 13), .ref (ad 14), .ref (ad 15), .ref (ad 16), .ref (ad 17), .ref (ad 18), .ref (ad 19), .int (iv 20), .ref (ad 21), .ref (ad 22), .ref (ad 23), .ref (ad 24), .ref (ad 25), .ref (ad 26), .ref (ad 27), .ref (ad 28), .int (iv 29), .ref (ad 30), .ref (ad 31), .int (iv 32), .int (iv 33), .int (iv 34), .int (iv 35), .long tl, .int (iv 37), .int (iv 38), .int (iv 39), .int (iv 40), .ref (ad 41), .ref (ad 42), .int (iv 43)])) := ⟨_, rfl⟩
      rw [← u5] at w
      have k3 : pd_kq y hh h2 := by rw [u5]; exact pd_up_kq
      have f4 : h2 y = some (20, .inr (10, [.ref (ad 0), .ref (ad 1), .ref (ad 2), .int (nI (cs.length + i)), .int (iv 4), .int (iv 5), .ref (ad 6), .ref (ad 7), .ref (ad 8), .ref (ad 9), .ref (ad 10), .ref (ad 11), .int (iv 12), .ref (ad 13), .ref (ad 14), .ref (ad 15), .ref (ad 16), .ref (ad 17), .ref (ad 18), .ref (ad 19), .int (iv 20), .ref (ad 21), .ref (ad 22), .ref (ad 23), .ref (ad 24), .ref (ad 25), .ref (ad 26), .ref (ad 27), .ref (ad 28), .int (iv 29), .ref (ad 30), .ref (ad 31), .int (iv 32), .int (iv 33), .int (iv 34), .int (iv 35), .long tl, .int (iv 37), .int (iv 38), .int (iv 39), .int (iv 40), .ref (ad 41), .ref (ad 42), .int (iv 43)])) := by rw [u5]; exact pd_up_s _ _ _
      have f6 := k3 _ _ (pd_ne ha0 hy2 (by simp)) ha0
      refine lv_aload_n hx hb d_p15m4_125 rfl (lv_at hl 2 rfl) ?_
      refine pd_get X w f4 rfl 3 (by decide) mT_1142 rfl rfl d_p15m4_126 ?_
      exact pd_iret (v := (nI (cs.length + i))) X w ⟨by unfold gr_text; rw [if_neg (by omega), if_neg (by omega)]; show nI _ = nI _; rw [hlin], hk2.tr (pd_kx.mono (us := [20, 30]) (pd_kq.kx (k3) hy2) (by simp)), f0, nI (cs.length + i), (pd_MO.of (fv2 := pd_fu fv 0 f0) (iv2 := pd_fu iv 3 (nI (cs.length + i))) (tl2 := tl) (ts := [20]) hMO2 (pd_kq.kx (k3) hy2) f4 (fun j hj => Or.inr ⟨fun z => by first | (simp at z; done) | (simp at z; omega), rfl⟩)), (by unfold gr_text; rw [if_neg (by omega), if_neg (by omega)]; show gm_L _ _ (cs ++ (List.range (gr_lin wd 8 0)).map (gr_oct wd)); rw [hlin]; exact ⟨by show nI _ = nI _; rw [List.length_append, List.length_map, List.length_range], gm_txt hf1 (fun t ht => hf2 t (by omega)), (by rw [List.length_append, List.length_map, List.length_range]; omega), (fun z9 hz9 => (List.mem_append.mp hz9).elim (hlc z9) (fun y9 => by obtain ⟨k9, _, rfl⟩ := List.mem_map.mp y9; exact gr_oct_lt wd k9))⟩)⟩ (by decide) (by decide) d_p15m4_129
    · -- not taken: 85
      refine lv_aload_n hx hb d_p15m4_85 rfl (lv_at hl 2 rfl) ?_
      refine pd_get X w hy2 rfl 0 (by decide) mT_1139 rfl rfl d_p15m4_86 ?_
      refine lv_aload_n hx hb d_p15m4_89 rfl (lv_at hl 2 rfl) ?_
      refine pd_get X w hy2 rfl 3 (by decide) mT_1142 rfl rfl d_p15m4_90 ?_
      refine pd_top (v' := .int (nI cs.length)) (congrArg Value.int hiv3) ?_
      refine lv_iload hx hb d_p15m4_93 (lv_at hl 0 rfl) ?_
      refine pd_iadd hx hb d_p15m4_95 ?_
      refine lv_lload_n hx hb d_p15m4_96 rfl (lv_at hl 3 rfl) ?_
      refine lv_bipush (v := nI 8) hx hb d_p15m4_97 (by decide) ?_
      refine lv_iload hx hb d_p15m4_99 (lv_at hl 0 rfl) ?_
      refine pd_imul hx hb d_p15m4_101 ?_
      refine lv_lushr hx hb d_p15m4_102 rfl ?_
      refine lv_ldc2 (v := 255) hx hb X.2.2.2.2.1 (X.2.2.2.2.2.1 _ mT_1137) d_p15m4_103 ?_
      refine lv_land hx hb d_p15m4_106 ?_
      refine lv_l2i hx hb d_p15m4_107 rfl ?_
      refine pd_top (v' := .int (nI (gr_oct wd j))) (congrArg Value.int (gm_o3 wd j)) ?_
      refine pd_iast X w ha0 (hMO.2.2 0 (by decide)).2 (by omega) (by omega) d_p15m4_108 (fun H locs w => ?_)
      have w : pd_w G s H locs (pd_up hh (ad 0) (30, .inl (.int, 60, .inl (upd f0 (cs.length + j) (nI (gr_oct wd j)))))) := w
      obtain ⟨h7, u10⟩ : ∃ z, z = pd_up hh (ad 0) (30, .inl (.int, 60, .inl (upd f0 (cs.length + j) (nI (gr_oct wd j))))) := ⟨_, rfl⟩
      rw [← u10] at w
      have k8 : pd_kq (ad 0) hh h7 := by rw [u10]; exact pd_up_kq
      have f9 : h7 (ad 0) = some (30, .inl (.int, 60, .inl (upd f0 (cs.length + j) (nI (gr_oct wd j))))) := by rw [u10]; exact pd_up_s _ _ _
      have f11 := k8 _ _ (pd_ne hy2 ha0 (by simp)) hy2
      refine pd_iinc (k := 0) (d := 1) (lv' := [(4, .int (nI (j + 1))), (3, .int (nI i)), (0, .ref y), (1, .long wd)]) hx hb d_p15m4_109 (by decide) hl rfl (by decide) rfl (fun ls hl => ?_)
      refine lv_goto (tgt := 79) hx hb d_p15m4_112 (by decide) ?_
      exact ih (j + 1) i (upd f0 (cs.length + j) (nI (gr_oct wd j))) h7 (hlin) (hib) (by omega) (hk2.tr (pd_kx.mono (us := [20, 30]) (pd_kq.kx (k8) ha0) (by simp))) (pd_MO.fu2 (pd_MO.of (fv2 := pd_fu (pd_fu fv 0 f0) 0 (upd f0 (cs.length + j) (nI (gr_oct wd j)))) (iv2 := iv) (tl2 := tl) (ts := [30]) hMO2 (pd_kq.kx (k8) ha0) f11 (fun j hj => if e0 : j = 0 then by subst e0; exact Or.inl f9 else Or.inr ⟨fun z => by first | (simp at z; done) | (simp at z; omega), by rw [pd_fu_n e0]⟩))) (fun t ht => by rw [pk_un (by omega)]; exact hf1 t ht) (fun t ht => by by_cases e9 : t = j; subst e9; rw [pk_us]; rw [pk_un (by omega)]; exact hf2 t (by omega)) (by omega) _ _ w ls (lv_sub hl [0, 1, 2, 3] rfl)
set_option maxHeartbeats 4000000 in
set_option maxRecDepth 100000 in
theorem lp_Mod_text_2 (l : Launch) (G : pd_G) (h : pd_H) {y : Nat} {ad : Nat → Nat} {fv : Nat → Nat → Int32} {iv : Nat → Int32} {tl : Int64} {cs : List Nat} {wd : Int64} (hMO : pd_MO G h y ad fv iv tl) (hL : gm_L fv iv cs) {p : Program} {e : Env} {s : State} {m : MethodId} {below : List Frame} {meth : Method} {c : Code} (X : pd_B p s m [.ref y, .long wd].toArray meth c G y_Mod_text.cls prog_15_method_4_code 5 (some .int)) (hmn : meth.name = y_Mod_text.name) :
    ∀ (kk9 : Nat) (i : Nat), (i ≤ 8) → (gr_lin wd (8 - i) i = gr_lin wd 8 0) → 8 - i < kk9 → ∀ (H : Heap) (locs : List Loc), pd_w G s H locs h → ∀ ls : Array Slot, lv_has ls 5 [(3, .int (nI i)), (0, .ref y), (1, .long wd)] → W p l e rm_Mod_text s m [.ref y, .long wd].toArray below meth c H locs 0 0 (MQ below (pd_Q G Value.int (fun r h1 => r = (gr_text cs wd).1 ∧ pd_kx [20, 30] h h1 ∧ ∃ f0 v3, pd_MO G h1 y ad (pd_fu fv 0 f0) (pd_fu iv 3 v3) tl ∧ gm_L (pd_fu fv 0 f0) (pd_fu iv 3 v3) (gr_text cs wd).2)) [.ref y, .long wd].toArray s rm_Mod_text.cells rm_Mod_text.slots (fun q => G.2.1 ≤ q)) (F0 m 2 ls []) := by
  have hx := X.1
  have hb := X.2.1
  have hz_y := hMO.2.1
  have hy0 : h y = some (20, .inr (10, [.ref (ad 0), .ref (ad 1), .ref (ad 2), .int (iv 3), .int (iv 4), .int (iv 5), .ref (ad 6), .ref (ad 7), .ref (ad 8), .ref (ad 9), .ref (ad 10), .ref (ad 11), .int (iv 12), .ref (ad 13), .ref (ad 14), .ref (ad 15), .ref (ad 16), .ref (ad 17), .ref (ad 18), .ref (ad 19), .int (iv 20), .ref (ad 21), .ref (ad 22), .ref (ad 23), .ref (ad 24), .ref (ad 25), .ref (ad 26), .ref (ad 27), .ref (ad 28), .int (iv 29), .ref (ad 30), .ref (ad 31), .int (iv 32), .int (iv 33), .int (iv 34), .int (iv 35), .long tl, .int (iv 37), .int (iv 38), .int (iv 39), .int (iv 40), .ref (ad 41), .ref (ad 42), .int (iv 43)])) := hMO.1
  have ha0 : h (ad 0) = some (30, .inl (.int, 60, .inl (fv 0))) := (hMO.2.2 0 (by decide)).1
  obtain ⟨hiv3, hln, hl60, hlc⟩ := id hL
  intro kk9
  induction kk9 with
  | zero => intros; omega
  | succ kk9 ih =>
    intro i hi hv hmu H locs w ls hl
    refine lv_iload_n hx hb d_p15m4_2 rfl (lv_at hl 0 rfl) ?_
    refine lv_bipush (v := nI 8) hx hb d_p15m4_3 (by decide) ?_
    refine pd_jge (tgt := 56) hx hb d_p15m4_5 (by decide) (by omega) (by omega) (fun q1 => ?_) (fun q1 => ?_)
    · -- taken: 56
      have hlin : gr_lin wd 8 0 = i := by rw [← hv, show 8 - i = 0 by omega]; rfl
      have hl8 := gr_lin_le wd 8 0
      refine lv_iload_n hx hb d_p15m4_56 rfl (lv_at hl 0 rfl) ?_
      refine pd_zne (tgt := 62) hx hb d_p15m4_57 (by decide) (by omega) (fun q2 => ?_) (fun q2 => ?_)
      · -- taken: 62
        refine lv_aload_n hx hb d_p15m4_62 rfl (lv_at hl 1 rfl) ?_
        refine pd_get X w hy0 rfl 3 (by decide) mT_1142 rfl rfl d_p15m4_63 ?_
        refine pd_top (v' := .int (nI cs.length)) (congrArg Value.int hiv3) ?_
        refine lv_iload_n hx hb d_p15m4_66 rfl (lv_at hl 0 rfl) ?_
        refine pd_iadd hx hb d_p15m4_67 ?_
        refine lv_bipush (v := nI 60) hx hb d_p15m4_68 (by decide) ?_
        refine pd_jle (tgt := 76) hx hb d_p15m4_70 (by decide) (by omega) (by omega) (fun q3 => ?_) (fun q3 => ?_)
        · -- taken: 76
          refine lv_iconst (v := nI 0) hx hb d_p15m4_76 (by decide) ?_
          refine lv_istore (lv' := [(4, .int (nI 0)), (3, .int (nI i)), (0, .ref y), (1, .long wd)]) hx hb d_p15m4_77 hl (by decide) rfl (fun ls hl => ?_)
          exact lp_Mod_text_79 l G h hMO hL X hmn (i + 1) 0 i (fv 0) h (hlin) (by omega) (by omega) (pd_kx.rf) (⟨hMO.1, hMO.2.1, fun j9 hj9 => by by_cases e9 : j9 = 0; subst e9; exact hMO.2.2 0 hj9; rw [pd_fu_n e9]; exact hMO.2.2 j9 hj9⟩) (hln) (fun t ht => absurd ht (Nat.not_lt_zero t)) (by omega) _ _ w ls (lv_sub hl [0, 1, 2, 3] rfl)
        · -- not taken: 73
          refine lv_bipush (v := -5) hx hb d_p15m4_73 (by decide) ?_
          exact pd_iret (v := (-5)) X w ⟨by unfold gr_text; rw [if_neg (by omega), if_pos (by omega)], pd_kx.rf, fv 0, iv 3, ⟨hMO.1, hMO.2.1, fun j9 hj9 => by by_cases e9 : j9 = 0; subst e9; exact hMO.2.2 0 hj9; rw [pd_fu_n e9]; exact hMO.2.2 j9 hj9⟩, (by unfold gr_text; rw [if_neg (by omega), if_pos (by omega)]; exact hL)⟩ (by decide) (by decide) d_p15m4_75
      · -- not taken: 60
        refine lv_iconst (v := -1) hx hb d_p15m4_60 (by decide) ?_
        exact pd_iret (v := (-1)) X w ⟨by unfold gr_text; rw [if_pos (by omega)], pd_kx.rf, fv 0, iv 3, ⟨hMO.1, hMO.2.1, fun j9 hj9 => by by_cases e9 : j9 = 0; subst e9; exact hMO.2.2 0 hj9; rw [pd_fu_n e9]; exact hMO.2.2 j9 hj9⟩, (by unfold gr_text; rw [if_pos (by omega)]; exact hL)⟩ (by decide) (by decide) d_p15m4_61
    · -- not taken: 8
      refine lv_lload_n hx hb d_p15m4_8 rfl (lv_at hl 2 rfl) ?_
      refine lv_bipush (v := nI 8) hx hb d_p15m4_9 (by decide) ?_
      refine lv_iload_n hx hb d_p15m4_11 rfl (lv_at hl 0 rfl) ?_
      refine pd_imul hx hb d_p15m4_12 ?_
      refine lv_lushr hx hb d_p15m4_13 rfl ?_
      refine lv_ldc2 (v := 255) hx hb X.2.2.2.2.1 (X.2.2.2.2.2.1 _ mT_1137) d_p15m4_14 ?_
      refine lv_land hx hb d_p15m4_17 ?_
      refine lv_lconst (v := 0) hx hb d_p15m4_18 (by decide) ?_
      refine pd_lcmp hx hb d_p15m4_19 ?_
      refine lv_if_eq (tgt := 56) hx hb d_p15m4_20 (by decide) (fun q4 => ?_) (fun q4 => ?_)
      · -- taken: 56
        have hlin : gr_lin wd 8 0 = i := by rw [← hv, gr_lin_s (by omega), if_pos ((gm_o4 wd i).mp (pd_lc0.mp q4))]
        have hl8 := gr_lin_le wd 8 0
        refine lv_iload_n hx hb d_p15m4_56 rfl (lv_at hl 0 rfl) ?_
        refine pd_zne (tgt := 62) hx hb d_p15m4_57 (by decide) (by omega) (fun q5 => ?_) (fun q5 => ?_)
        · -- taken: 62
          refine lv_aload_n hx hb d_p15m4_62 rfl (lv_at hl 1 rfl) ?_
          refine pd_get X w hy0 rfl 3 (by decide) mT_1142 rfl rfl d_p15m4_63 ?_
          refine pd_top (v' := .int (nI cs.length)) (congrArg Value.int hiv3) ?_
          refine lv_iload_n hx hb d_p15m4_66 rfl (lv_at hl 0 rfl) ?_
          refine pd_iadd hx hb d_p15m4_67 ?_
          refine lv_bipush (v := nI 60) hx hb d_p15m4_68 (by decide) ?_
          refine pd_jle (tgt := 76) hx hb d_p15m4_70 (by decide) (by omega) (by omega) (fun q6 => ?_) (fun q6 => ?_)
          · -- taken: 76
            refine lv_iconst (v := nI 0) hx hb d_p15m4_76 (by decide) ?_
            refine lv_istore (lv' := [(4, .int (nI 0)), (3, .int (nI i)), (0, .ref y), (1, .long wd)]) hx hb d_p15m4_77 hl (by decide) rfl (fun ls hl => ?_)
            exact lp_Mod_text_79 l G h hMO hL X hmn (i + 1) 0 i (fv 0) h (hlin) (by omega) (by omega) (pd_kx.rf) (⟨hMO.1, hMO.2.1, fun j9 hj9 => by by_cases e9 : j9 = 0; subst e9; exact hMO.2.2 0 hj9; rw [pd_fu_n e9]; exact hMO.2.2 j9 hj9⟩) (hln) (fun t ht => absurd ht (Nat.not_lt_zero t)) (by omega) _ _ w ls (lv_sub hl [0, 1, 2, 3] rfl)
          · -- not taken: 73
            refine lv_bipush (v := -5) hx hb d_p15m4_73 (by decide) ?_
            exact pd_iret (v := (-5)) X w ⟨by unfold gr_text; rw [if_neg (by omega), if_pos (by omega)], pd_kx.rf, fv 0, iv 3, ⟨hMO.1, hMO.2.1, fun j9 hj9 => by by_cases e9 : j9 = 0; subst e9; exact hMO.2.2 0 hj9; rw [pd_fu_n e9]; exact hMO.2.2 j9 hj9⟩, (by unfold gr_text; rw [if_neg (by omega), if_pos (by omega)]; exact hL)⟩ (by decide) (by decide) d_p15m4_75
        · -- not taken: 60
          refine lv_iconst (v := -1) hx hb d_p15m4_60 (by decide) ?_
          exact pd_iret (v := (-1)) X w ⟨by unfold gr_text; rw [if_pos (by omega)], pd_kx.rf, fv 0, iv 3, ⟨hMO.1, hMO.2.1, fun j9 hj9 => by by_cases e9 : j9 = 0; subst e9; exact hMO.2.2 0 hj9; rw [pd_fu_n e9]; exact hMO.2.2 j9 hj9⟩, (by unfold gr_text; rw [if_pos (by omega)]; exact hL)⟩ (by decide) (by decide) d_p15m4_61
      · -- not taken: 23
        refine lv_lload_n hx hb d_p15m4_23 rfl (lv_at hl 2 rfl) ?_
        refine lv_bipush (v := nI 8) hx hb d_p15m4_24 (by decide) ?_
        refine lv_iload_n hx hb d_p15m4_26 rfl (lv_at hl 0 rfl) ?_
        refine pd_imul hx hb d_p15m4_27 ?_
        refine lv_lushr hx hb d_p15m4_28 rfl ?_
        refine lv_ldc2 (v := 255) hx hb X.2.2.2.2.1 (X.2.2.2.2.2.1 _ mT_1137) d_p15m4_29 ?_
        refine lv_land hx hb d_p15m4_32 ?_
        refine lv_l2i hx hb d_p15m4_33 rfl ?_
        refine pd_top (v' := .int (nI (gr_oct wd i))) (congrArg Value.int (gm_o3 wd i)) ?_
        have hol := gr_oct_lt wd i
        refine lv_istore (lv' := [(4, .int (nI (gr_oct wd i))), (3, .int (nI i)), (0, .ref y), (1, .long wd)]) hx hb d_p15m4_34 hl (by decide) rfl (fun ls hl => ?_)
        refine lv_iload hx hb d_p15m4_36 (lv_at hl 0 rfl) ?_
        refine lv_bipush (v := nI 32) hx hb d_p15m4_38 (by decide) ?_
        refine lv_bipush (v := nI 126) hx hb d_p15m4_40 (by decide) ?_
        refine pd_cS (As := [.int (nI (gr_oct wd i)), .int (nI 32), .int (nI 126)]) (rest := []) X w (c_Mod_in l G h (by omega) (by omega) (by omega)) ok_Mod_in mT_1278 mT_1277 ⟨by decide, by decide⟩ rfl hl.1 rfl (Nat.le_of_ble_eq_true rfl) d_p15m4_42 ⟨by decide, by decide⟩ (fun r7 h8 H locs hp9 w => ?_)
        refine W.widen (k := 0) (n := 0) (by decide) (by decide) ?_
        obtain ⟨e10, rfl⟩ := hp9
        refine pd_bne (tgt := 50) hx hb d_p15m4_45 (by decide) (fun q11 => ?_) (fun q11 => ?_)
        · -- taken: 50
          refine pd_iinc (k := 1) (d := 1) (lv' := [(3, .int (nI (i + 1))), (4, .int (nI (gr_oct wd i))), (0, .ref y), (1, .long wd)]) hx hb d_p15m4_50 (by decide) hl rfl (by decide) rfl (fun ls hl => ?_)
          refine lv_goto (tgt := 2) hx hb d_p15m4_53 (by decide) ?_
          exact ih (i + 1) (by omega) (by rw [← hv, gr_lin_s (i := i) (by omega), if_neg (fun z => q4 (pd_lc0.mpr ((gm_o4 wd i).mpr z))), if_neg (by have z := of_decide_eq_true (e10.symm.trans q11); omega)]) (by omega) _ _ w ls (lv_sub hl [0, 2, 3] rfl)
        · -- not taken: 48
          refine lv_iconst (v := -1) hx hb d_p15m4_48 (by decide) ?_
          exact pd_iret (v := (-1)) X w ⟨by unfold gr_text; rw [if_pos (by rw [← hv, gr_lin_s (by omega), if_neg (fun z => q4 (pd_lc0.mpr ((gm_o4 wd i).mpr z))), if_pos (by have z := of_decide_eq_false (e10.symm.trans q11); omega)])], pd_kx.rf, fv 0, iv 3, ⟨hMO.1, hMO.2.1, fun j9 hj9 => by by_cases e9 : j9 = 0; subst e9; exact hMO.2.2 0 hj9; rw [pd_fu_n e9]; exact hMO.2.2 j9 hj9⟩, (by unfold gr_text; rw [if_pos (by rw [← hv, gr_lin_s (by omega), if_neg (fun z => q4 (pd_lc0.mpr ((gm_o4 wd i).mpr z))), if_pos (by have z := of_decide_eq_false (e10.symm.trans q11); omega)])]; exact hL)⟩ (by decide) (by decide) d_p15m4_49
set_option maxHeartbeats 4000000 in
set_option maxRecDepth 100000 in
theorem c_Mod_text (l : Launch) (G : pd_G) (h : pd_H) {y : Nat} {ad : Nat → Nat} {fv : Nat → Nat → Int32} {iv : Nat → Int32} {tl : Int64} {cs : List Nat} {wd : Int64} (hMO : pd_MO G h y ad fv iv tl) (hL : gm_L fv iv cs) : pd_M l y_Mod_text prog_15_method_4_code 5 (some .int) rm_Mod_text G h [.ref y, .long wd] Value.int (fun r h1 => r = (gr_text cs wd).1 ∧ pd_kx [20, 30] h h1 ∧ ∃ f0 v3, pd_MO G h1 y ad (pd_fu fv 0 f0) (pd_fu iv 3 v3) tl ∧ gm_L (pd_fu fv 0 f0) (pd_fu iv 3 v3) (gr_text cs wd).2) := by
  refine pd_M.of (by decide) (Nat.le_of_ble_eq_true rfl) ?_
  intro p e s m below meth c X hmn w ls hl
  have hx := X.1
  have hb := X.2.1
  have hl : lv_has ls 5 [(0, .ref y), (1, .long wd)] := hl
  have hz_y := hMO.2.1
  have hy0 : h y = some (20, .inr (10, [.ref (ad 0), .ref (ad 1), .ref (ad 2), .int (iv 3), .int (iv 4), .int (iv 5), .ref (ad 6), .ref (ad 7), .ref (ad 8), .ref (ad 9), .ref (ad 10), .ref (ad 11), .int (iv 12), .ref (ad 13), .ref (ad 14), .ref (ad 15), .ref (ad 16), .ref (ad 17), .ref (ad 18), .ref (ad 19), .int (iv 20), .ref (ad 21), .ref (ad 22), .ref (ad 23), .ref (ad 24), .ref (ad 25), .ref (ad 26), .ref (ad 27), .ref (ad 28), .int (iv 29), .ref (ad 30), .ref (ad 31), .int (iv 32), .int (iv 33), .int (iv 34), .int (iv 35), .long tl, .int (iv 37), .int (iv 38), .int (iv 39), .int (iv 40), .ref (ad 41), .ref (ad 42), .int (iv 43)])) := hMO.1
  have ha0 : h (ad 0) = some (30, .inl (.int, 60, .inl (fv 0))) := (hMO.2.2 0 (by decide)).1
  obtain ⟨hiv3, hln, hl60, hlc⟩ := id hL
  refine lv_iconst (v := nI 0) hx hb d_p15m4_0 (by decide) ?_
  refine lv_istore_n (lv' := [(3, .int (nI 0)), (0, .ref y), (1, .long wd)]) hx hb d_p15m4_1 rfl hl (by decide) rfl (fun ls hl => ?_)
  exact lp_Mod_text_2 l G h hMO hL X hmn (8 + 1) 0 (by omega) (rfl) (by omega) _ _ w ls (lv_sub hl [0, 1, 2] rfl)
