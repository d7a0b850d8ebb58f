/-! the desk -/
theorem pd_Cls.rows {G : pd_G} {h : pd_H} {x n : Nat} {A : Nat → Nat} {R : Nat → pd_cr} (q : pd_Cls G h x A n R) : pd_Rows G h A n R := by
  obtain ⟨_, _, _, _, _, _, _, _, z⟩ := q
  exact z
theorem pd_Mems.mrows {G : pd_G} {h : pd_H} {x n k : Nat} {A B : Nat → Nat} {M : Nat → pd_mr} (q : pd_Mems G h x A n B k M) : pd_MRows h A n B k M := by
  obtain ⟨_, _, _, _, _, _, _, _, z⟩ := q
  exact z
theorem pd_Ruls.rrows {G : pd_G} {h : pd_H} {x k u : Nat} {B C : Nat → Nat} {U : Nat → pd_rr} (q : pd_Ruls G h x B k C u U) : pd_RRows G h B k C u U := by
  obtain ⟨_, _, _, _, _, _, _, _, z⟩ := q
  exact z
def pd_DX (G : pd_G) (h : pd_H) (x : Nat) (A B C : Nat → Nat) (t0 : List Nat) (n : Nat) (R : Nat → pd_cr) (k : Nat) (M : Nat → pd_mr) (u : Nat) (U : Nat → pd_rr) (T : Nat → List Nat) (kp nx : Nat) (sp : Int64) (an gn sn dn : Nat) : Prop := ∃ (lb cl me ru bk : Nat), h x = some (5, .inr (0, [.ref lb, .ref cl, .ref me, .ref ru, .ref bk, .long sp, .int (nI an), .int (nI gn), .int (nI sn), .int (nI dn)])) ∧ G.2.1 ≤ x ∧ pd_SB G h lb 1 2 t0 ∧ pd_Cls G h cl A n R ∧ pd_Mems G h me A n B k M ∧ pd_Ruls G h ru B k C u U ∧ pd_Aud G h bk T kp nx ∧ t0.length ≤ 60
theorem pd_DX.kx {G : pd_G} {ts : List Nat} {h h' : pd_H} {x : Nat} {A B C : Nat → Nat} {t0 : List Nat} {n : Nat} {R : Nat → pd_cr} {k : Nat} {M : Nat → pd_mr} {u : Nat} {U : Nat → pd_rr} {T : Nat → List Nat} {kp nx : Nat} {sp : Int64} {an gn sn dn : Nat} (q : pd_DX G h x A B C t0 n R k M u U T kp nx sp an gn sn dn) (kx : pd_kx ts h h') (hn : ∀ t, t < 19 → t ∉ ts) : pd_DX G h' x A B C t0 n R k M u U T kp nx sp an gn sn dn := by
  obtain ⟨lb, cl, me, ru, bk, h1, h2, h3, h4, h5, h6, h7, h8⟩ := q
  exact ⟨lb, cl, me, ru, bk, kx _ _ h1 (hn 5 (by decide)), h2, h3.kx kx (hn 1 (by decide)) (hn 2 (by decide)), h4.kx kx (hn 6 (by decide)) (hn 10 (by decide)) (hn 0 (by decide)), h5.kx kx (hn 11 (by decide)) (hn 12 (by decide)) (hn 0 (by decide)), h6.kx kx (hn 13 (by decide)) (hn 14 (by decide)) (hn 0 (by decide)), h7.kx kx (hn 15 (by decide)) (hn 16 (by decide)) (hn 17 (by decide)) (hn 3 (by decide)) (hn 4 (by decide)), h8⟩
/-- a text of eight octets: the i-th -/
def gr_sh (wd : Int64) (i : Nat) : Int64 := (wd.toUInt64 >>> ((nI (8 * i)).toInt64.toUInt64 &&& Int64.toUInt64 63)).toInt64
def gr_oct (wd : Int64) (i : Nat) : Nat := (gr_sh wd i).toInt32.toBitVec.toNat % 256
theorem gr_oct_lt (wd : Int64) (i : Nat) : gr_oct wd i < 256 := Nat.mod_lt _ (by decide)
theorem gr_oct_v (wd : Int64) (i : Nat) : (gr_sh wd i).toInt32 &&& nI 255 = nI (gr_oct wd i) := pk_and _ 8 (by decide)
def gr_lin (wd : Int64) : Nat → Nat → Nat
  | 0, i => i
  | f + 1, i => if gr_oct wd i = 0 then i else if gr_oct wd i < 32 ∨ 126 < gr_oct wd i then 0 else gr_lin wd f (i + 1)
theorem gr_lin_s {wd : Int64} {i : Nat} (h : i < 8) : gr_lin wd (8 - i) i = if gr_oct wd i = 0 then i else if gr_oct wd i < 32 ∨ 126 < gr_oct wd i then 0 else gr_lin wd (8 - (i + 1)) (i + 1) := by
  rw [show 8 - i = (8 - (i + 1)) + 1 by omega, gr_lin]
theorem gr_lin_le (wd : Int64) : ∀ f i, gr_lin wd f i ≤ f + i
  | 0, i => by rw [gr_lin]; omega
  | f + 1, i => by
    rw [gr_lin]
    split
    · omega
    · split
      · omega
      · have := gr_lin_le wd f (i + 1)
        omega
def gr_text (t0 : List Nat) (wd : Int64) : Int32 × List Nat := if gr_lin wd 8 0 = 0 then (-1, t0) else if 60 < t0.length + gr_lin wd 8 0 then (-5, t0) else (nI (t0.length + gr_lin wd 8 0), t0 ++ (List.range (gr_lin wd 8 0)).map (gr_oct wd))
theorem d_p1m12_0 : decode prog_1_method_12_code 0 = .ok (.lload_n 0, 1) := by decide +kernel
theorem d_p1m12_1 : decode prog_1_method_12_code 1 = .ok (.bipush 8, 2) := by decide +kernel
theorem d_p1m12_3 : decode prog_1_method_12_code 3 = .ok (.iload_n 2, 1) := by decide +kernel
theorem d_p1m12_4 : decode prog_1_method_12_code 4 = .ok (.imul, 1) := by decide +kernel
theorem d_p1m12_5 : decode prog_1_method_12_code 5 = .ok (.lushr, 1) := by decide +kernel
theorem d_p1m12_6 : decode prog_1_method_12_code 6 = .ok (.l2i, 1) := by decide +kernel
theorem d_p1m12_7 : decode prog_1_method_12_code 7 = .ok (.sipush 255, 3) := by decide +kernel
theorem d_p1m12_10 : decode prog_1_method_12_code 10 = .ok (.iand, 1) := by decide +kernel
theorem d_p1m12_11 : decode prog_1_method_12_code 11 = .ok (.ireturn, 1) := by decide +kernel
abbrev y_PolicyDesk_octet : MethodName := ⟨"PolicyDesk", "octet", "(JI)I"⟩
theorem ok_PolicyDesk_octet : pd_ok y_PolicyDesk_octet prog_1_method_12_code 3 (some .int) 2 := ⟨mT_407, mT_1, by decide, by decide +kernel⟩
abbrev rm_PolicyDesk_octet : Room := { frames := 0, cells := 0, slots := 0, locals := 0 }
set_option maxHeartbeats 4000000 in
set_option maxRecDepth 100000 in
theorem c_PolicyDesk_octet (l : Launch) (G : pd_G) (h : pd_H) {wd : Int64} {i : Nat} : pd_M l y_PolicyDesk_octet prog_1_method_12_code 3 (some .int) rm_PolicyDesk_octet G h [.long wd, .int (nI i)] pd_vn (fun r h1 => r = gr_oct wd i ∧ r < 256 ∧ h = h1) := by
  refine pd_M.of (by decide) (Nat.le_of_ble_eq_true rfl) ?_
  intro p e s m below meth c X hmn w ls hl
  have hx := X.1
  have hb := X.2.1
  have hl : lv_has ls 3 [(0, .long wd), (2, .int (nI i))] := hl
  refine lv_lload_n hx hb d_p1m12_0 rfl (lv_at hl 0 rfl) ?_
  refine lv_bipush (v := nI 8) hx hb d_p1m12_1 (by decide) ?_
  refine lv_iload_n hx hb d_p1m12_3 rfl (lv_at hl 1 rfl) ?_
  refine pd_imul hx hb d_p1m12_4 ?_
  refine lv_lushr hx hb d_p1m12_5 rfl ?_
  refine lv_l2i hx hb d_p1m12_6 rfl ?_
  refine lv_sipush (v := nI 255) hx hb d_p1m12_7 (by decide) ?_
  refine lv_iand hx hb d_p1m12_10 ?_
  refine pd_top (v' := .int (nI (gr_oct wd i))) (congrArg Value.int (gr_oct_v wd i)) ?_
  exact pd_nret (v := (gr_oct wd i)) X w ⟨rfl, gr_oct_lt wd i, rfl⟩ (by decide) (by decide) d_p1m12_11
theorem d_p1m11_0 : decode prog_1_method_11_code 0 = .ok (.iconst 0, 1) := by decide +kernel
theorem d_p1m11_1 : decode prog_1_method_11_code 1 = .ok (.istore_n 2, 1) := by decide +kernel
theorem d_p1m11_2 : decode prog_1_method_11_code 2 = .ok (.iload_n 2, 1) := by decide +kernel
theorem d_p1m11_3 : decode prog_1_method_11_code 3 = .ok (.bipush 8, 2) := by decide +kernel
theorem d_p1m11_5 : decode prog_1_method_11_code 5 = .ok (.if_icmp .ge 35, 3) := by decide +kernel
theorem d_p1m11_8 : decode prog_1_method_11_code 8 = .ok (.lload_n 0, 1) := by decide +kernel
theorem d_p1m11_9 : decode prog_1_method_11_code 9 = .ok (.iload_n 2, 1) := by decide +kernel
theorem d_p1m11_10 : decode prog_1_method_11_code 10 = .ok (.invokestatic 52, 3) := by decide +kernel
theorem d_p1m11_13 : decode prog_1_method_11_code 13 = .ok (.istore_n 3, 1) := by decide +kernel
theorem d_p1m11_14 : decode prog_1_method_11_code 14 = .ok (.iload_n 3, 1) := by decide +kernel
theorem d_p1m11_15 : decode prog_1_method_11_code 15 = .ok (.ifCond .ne 5, 3) := by decide +kernel
theorem d_p1m11_18 : decode prog_1_method_11_code 18 = .ok (.iload_n 2, 1) := by decide +kernel
theorem d_p1m11_19 : decode prog_1_method_11_code 19 = .ok (.ireturn, 1) := by decide +kernel
theorem d_p1m11_20 : decode prog_1_method_11_code 20 = .ok (.iload_n 3, 1) := by decide +kernel
theorem d_p1m11_21 : decode prog_1_method_11_code 21 = .ok (.bipush 32, 2) := by decide +kernel
theorem d_p1m11_23 : decode prog_1_method_11_code 23 = .ok (.if_icmp .lt 9, 3) := by decide +kernel
theorem d_p1m11_26 : decode prog_1_method_11_code 26 = .ok (.iload_n 3, 1) := by decide +kernel
theorem d_p1m11_27 : decode prog_1_method_11_code 27 = .ok (.bipush 126, 2) := by decide +kernel
theorem d_p1m11_29 : decode prog_1_method_11_code 29 = .ok (.if_icmp .le 5, 3) := by decide +kernel
theorem d_p1m11_32 : decode prog_1_method_11_code 32 = .ok (.iconst 0, 1) := by decide +kernel
theorem d_p1m11_33 : decode prog_1_method_11_code 33 = .ok (.ireturn, 1) := by decide +kernel
theorem d_p1m11_34 : decode prog_1_method_11_code 34 = .ok (.iinc 2 1, 3) := by decide +kernel
theorem d_p1m11_37 : decode prog_1_method_11_code 37 = .ok (.goto (-35), 3) := by decide +kernel
theorem d_p1m11_40 : decode prog_1_method_11_code 40 = .ok (.bipush 8, 2) := by decide +kernel
theorem d_p1m11_42 : decode prog_1_method_11_code 42 = .ok (.ireturn, 1) := by decide +kernel
abbrev y_PolicyDesk_lettersIn : MethodName := ⟨"PolicyDesk", "lettersIn", "(J)I"⟩
theorem ok_PolicyDesk_lettersIn : pd_ok y_PolicyDesk_lettersIn prog_1_method_11_code 4 (some .int) 1 := ⟨mT_404, mT_1, by decide, by decide +kernel⟩
abbrev rm_PolicyDesk_lettersIn : Room := { frames := 1, cells := 0, slots := 0, locals := 22 }
set_option maxHeartbeats 4000000 in
set_option maxRecDepth 100000 in
theorem lp_PolicyDesk_lettersIn_2 (l : Launch) (G : pd_G) (h : pd_H) {wd : Int64} {p : Program} {e : Env} {s : State} {m : MethodId} {below : List Frame} {meth : Method} {c : Code} (X : pd_B p s m [.long wd].toArray meth c G y_PolicyDesk_lettersIn.cls prog_1_method_11_code 4 (some .int)) (hmn : meth.name = y_PolicyDesk_lettersIn.name) :
    ∀ (kk9 : Nat) (i : Nat), (i ≤ 8) → (gr_lin wd (8 - i) i = gr_lin wd 8 0) → 8 - i < kk9 → ∀ (H : Heap) (locs : List Loc), pd_w G s H locs h → ∀ ls : Array Slot, lv_has ls 4 [(2, .int (nI i)), (0, .long wd)] → W p l e rm_PolicyDesk_lettersIn s m [.long wd].toArray below meth c H locs 0 0 (MQ below (pd_Q G pd_vn (fun r h1 => r = gr_lin wd 8 0 ∧ h = h1)) [.long wd].toArray s rm_PolicyDesk_lettersIn.cells rm_PolicyDesk_lettersIn.slots (fun q => G.2.1 ≤ q)) (F0 m 2 ls []) := by
  have hx := X.1
  have hb := X.2.1
  intro kk9
  induction kk9 with
  | zero => intros; omega
  | succ kk9 ih =>
    intro i hi hv hmu H locs w ls hl
    refine lv_iload_n hx hb d_p1m11_2 rfl (lv_at hl 0 rfl) ?_
    refine lv_bipush (v := nI 8) hx hb d_p1m11_3 (by decide) ?_
    refine pd_jge (tgt := 40) hx hb d_p1m11_5 (by decide) (by omega) (by omega) (fun q1 => ?_) (fun q1 => ?_)
    · -- taken: 40
      refine lv_bipush (v := nI 8) hx hb d_p1m11_40 (by decide) ?_
      exact pd_nret (v := 8) X w ⟨by rw [← hv, show 8 - i = 0 by omega, show i = 8 by omega]; rfl, rfl⟩ (by decide) (by decide) d_p1m11_42
    · -- not taken: 8
      refine lv_lload_n hx hb d_p1m11_8 rfl (lv_at hl 1 rfl) ?_
      refine lv_iload_n hx hb d_p1m11_9 rfl (lv_at hl 0 rfl) ?_
      refine pd_cS (As := [.long wd, .int (nI i)]) (rest := []) X w (c_PolicyDesk_octet l G h) ok_PolicyDesk_octet mT_406 mT_405 ⟨by decide, by decide⟩ rfl hl.1 rfl (Nat.le_of_ble_eq_true rfl) d_p1m11_10 ⟨by decide, by decide⟩ (fun r2 h3 H locs hp4 w => ?_)
      refine W.widen (k := 0) (n := 0) (by decide) (by decide) ?_
      obtain ⟨e5, lt6, rfl⟩ := hp4
      refine lv_istore_n (lv' := [(3, .int (nI r2)), (2, .int (nI i)), (0, .long wd)]) hx hb d_p1m11_13 rfl hl (by decide) rfl (fun ls hl => ?_)
      refine lv_iload_n hx hb d_p1m11_14 rfl (lv_at hl 0 rfl) ?_
      refine pd_zne (tgt := 20) hx hb d_p1m11_15 (by decide) (by omega) (fun q7 => ?_) (fun q7 => ?_)
      · -- taken: 20
        refine lv_iload_n hx hb d_p1m11_20 rfl (lv_at hl 0 rfl) ?_
        refine lv_bipush (v := nI 32) hx hb d_p1m11_21 (by decide) ?_
        refine pd_jlt (tgt := 32) hx hb d_p1m11_23 (by decide) (by omega) (by omega) (fun q8 => ?_) (fun q8 => ?_)
        · -- taken: 32
          refine lv_iconst (v := nI 0) hx hb d_p1m11_32 (by decide) ?_
          exact pd_nret (v := 0) X w ⟨by rw [← hv, gr_lin_s (by omega), if_neg (by omega), if_pos (by omega)], rfl⟩ (by decide) (by decide) d_p1m11_33
        · -- not taken: 26
          refine lv_iload_n hx hb d_p1m11_26 rfl (lv_at hl 0 rfl) ?_
          refine lv_bipush (v := nI 126) hx hb d_p1m11_27 (by decide) ?_
          refine pd_jle (tgt := 34) hx hb d_p1m11_29 (by decide) (by omega) (by omega) (fun q9 => ?_) (fun q9 => ?_)
          · -- taken: 34
            refine pd_iinc (k := 1) (d := 1) (lv' := [(2, .int (nI (i + 1))), (3, .int (nI r2)), (0, .long wd)]) hx hb d_p1m11_34 (by decide) hl rfl (by decide) rfl (fun ls hl => ?_)
            refine lv_goto (tgt := 2) hx hb d_p1m11_37 (by decide) ?_
            exact ih (i + 1) (by omega) (by rw [← hv, gr_lin_s (i := i) (by omega), if_neg (by omega), if_neg (by omega)]) (by omega) _ _ w ls (lv_sub hl [0, 2] rfl)
          · -- not taken: 32
            refine lv_iconst (v := nI 0) hx hb d_p1m11_32 (by decide) ?_
            exact pd_nret (v := 0) X w ⟨by rw [← hv, gr_lin_s (by omega), if_neg (by omega), if_pos (by omega)], rfl⟩ (by decide) (by decide) d_p1m11_33
      · -- not taken: 18
        refine lv_iload_n hx hb d_p1m11_18 rfl (lv_at hl 1 rfl) ?_
        exact pd_nret (v := i) X w ⟨by rw [← hv, gr_lin_s (by omega), if_pos (by omega)], rfl⟩ (by decide) (by decide) d_p1m11_19
set_option maxHeartbeats 4000000 in
set_option maxRecDepth 100000 in
theorem c_PolicyDesk_lettersIn (l : Launch) (G : pd_G) (h : pd_H) {wd : Int64} : pd_M l y_PolicyDesk_lettersIn prog_1_method_11_code 4 (some .int) rm_PolicyDesk_lettersIn G h [.long wd] pd_vn (fun r h1 => r = gr_lin wd 8 0 ∧ h = h1) := by
  refine pd_M.of (by decide) (Nat.le_of_ble_eq_true rfl) ?_
  intro p e s m below meth c X hmn w ls hl
  have hx := X.1
  have hb := X.2.1
  have hl : lv_has ls 4 [(0, .long wd)] := hl
  refine lv_iconst (v := nI 0) hx hb d_p1m11_0 (by decide) ?_
  refine lv_istore_n (lv' := [(2, .int (nI 0)), (0, .long wd)]) hx hb d_p1m11_1 rfl hl (by decide) rfl (fun ls hl => ?_)
  exact lp_PolicyDesk_lettersIn_2 l G h  X hmn (8 + 1) 0 (by omega) (rfl) (by omega) _ _ w ls (lv_sub hl [0, 1] rfl)
theorem gr_tx_s {t0 : List Nat} {wd : Int64} {i : Nat} : t0 ++ (List.range (i + 1)).map (gr_oct wd) = (t0 ++ (List.range i).map (gr_oct wd)) ++ [gr_oct wd i] := by
  rw [List.range_succ, List.map_append, List.append_assoc]
  rfl
def gr_no (o : Option Nat) (ot : Int32) : Int32 := match o with
  | none => ot
  | some i => nI i
def gr_pc (R : Nat → pd_cr) (o : Option Nat) : Bool := match o with
  | none => false
  | some i => !(R i).2.1
def gr_on (o : Option Nat) : Nat := match o with
  | none => 0
  | some _ => 1
def gr_cls (n : Nat) (R : Nat → pd_cr) (k : Nat) (M : Nat → pd_mr) (c0 wh : Int32) : Int32 := match pd_ix n c0 with
  | none => -2
  | some i => if wh = nI 0 then gr_no (R i).2.2.1 (-1) else if wh = nI 1 then (if (R i).2.1 = true then nI 1 else nI 0) else if wh = nI 2 then nI (gr_on (R i).2.2.2.1 + gr_on (R i).2.2.2.2.1) else if wh = nI 3 then gr_no (R i).2.2.2.1 (-2) else if wh = nI 4 then gr_no (R i).2.2.2.2.1 (-2) else if wh = nI 5 then nI (gr_cnt M i k) else if wh = nI 6 then nI (R i).1.length else -2
def gr_member (k : Nat) (M : Nat → pd_mr) (c0 wh : Int32) : Int32 := match pd_ix k c0 with
  | none => -2
  | some i => if wh = nI 0 then nI (M i).1 else if wh = nI 1 then (if gr_ism (M i).2.2.1 = true then nI 1 else nI 0) else if wh = nI 2 then nI (M i).2.2.2 else if wh = nI 3 then nI (M i).2.1.length else -2
def gr_below (n : Nat) (R : Nat → pd_cr) (c0 d0 : Int32) : Int32 := match pd_ix n c0 with
  | none => -2
  | some i => match pd_ix n d0 with
    | none => -2
    | some j => if gr_bel R i j = true then nI 1 else nI 0
def gr_count (n k u an gn sn tl dn : Nat) (wh : Int32) : Int32 := if wh = nI 0 then nI n else if wh = nI 1 then nI k else if wh = nI 2 then nI u else if wh = nI 3 then nI an else if wh = nI 4 then nI gn else if wh = nI 5 then nI sn else if wh = nI 6 then nI tl else if wh = nI 7 then nI dn else -1
theorem d_p1m2_0 : decode prog_1_method_2_code 0 = .ok (.lload_n 1, 1) := by decide +kernel
theorem d_p1m2_1 : decode prog_1_method_2_code 1 = .ok (.invokestatic 44, 3) := by decide +kernel
theorem d_p1m2_4 : decode prog_1_method_2_code 4 = .ok (.istore_n 3, 1) := by decide +kernel
theorem d_p1m2_5 : decode prog_1_method_2_code 5 = .ok (.iload_n 3, 1) := by decide +kernel
theorem d_p1m2_6 : decode prog_1_method_2_code 6 = .ok (.ifCond .ne 5, 3) := by decide +kernel
theorem d_p1m2_9 : decode prog_1_method_2_code 9 = .ok (.iconst (-1), 1) := by decide +kernel
theorem d_p1m2_10 : decode prog_1_method_2_code 10 = .ok (.ireturn, 1) := by decide +kernel
theorem d_p1m2_11 : decode prog_1_method_2_code 11 = .ok (.aload_n 0, 1) := by decide +kernel
theorem d_p1m2_12 : decode prog_1_method_2_code 12 = .ok (.getfield 10, 3) := by decide +kernel
theorem d_p1m2_15 : decode prog_1_method_2_code 15 = .ok (.invokevirtual 48, 3) := by decide +kernel
theorem d_p1m2_18 : decode prog_1_method_2_code 18 = .ok (.iload_n 3, 1) := by decide +kernel
theorem d_p1m2_19 : decode prog_1_method_2_code 19 = .ok (.iadd, 1) := by decide +kernel
theorem d_p1m2_20 : decode prog_1_method_2_code 20 = .ok (.bipush 60, 2) := by decide +kernel
theorem d_p1m2_22 : decode prog_1_method_2_code 22 = .ok (.if_icmp .le 6, 3) := by decide +kernel
theorem d_p1m2_25 : decode prog_1_method_2_code 25 = .ok (.bipush (-5), 2) := by decide +kernel
theorem d_p1m2_27 : decode prog_1_method_2_code 27 = .ok (.ireturn, 1) := by decide +kernel
theorem d_p1m2_28 : decode prog_1_method_2_code 28 = .ok (.iconst 0, 1) := by decide +kernel
theorem d_p1m2_29 : decode prog_1_method_2_code 29 = .ok (.istore 4, 2) := by decide +kernel
theorem d_p1m2_31 : decode prog_1_method_2_code 31 = .ok (.iload 4, 2) := by decide +kernel
theorem d_p1m2_33 : decode prog_1_method_2_code 33 = .ok (.iload_n 3, 1) := by decide +kernel
theorem d_p1m2_34 : decode prog_1_method_2_code 34 = .ok (.if_icmp .ge 24, 3) := by decide +kernel
theorem d_p1m2_37 : decode prog_1_method_2_code 37 = .ok (.aload_n 0, 1) := by decide +kernel
theorem d_p1m2_38 : decode prog_1_method_2_code 38 = .ok (.getfield 10, 3) := by decide +kernel
theorem d_p1m2_41 : decode prog_1_method_2_code 41 = .ok (.lload_n 1, 1) := by decide +kernel
theorem d_p1m2_42 : decode prog_1_method_2_code 42 = .ok (.iload 4, 2) := by decide +kernel
theorem d_p1m2_44 : decode prog_1_method_2_code 44 = .ok (.invokestatic 52, 3) := by decide +kernel
theorem d_p1m2_47 : decode prog_1_method_2_code 47 = .ok (.i2c, 1) := by decide +kernel
theorem d_p1m2_48 : decode prog_1_method_2_code 48 = .ok (.invokevirtual 56, 3) := by decide +kernel
theorem d_p1m2_51 : decode prog_1_method_2_code 51 = .ok (.pop, 1) := by decide +kernel
theorem d_p1m2_52 : decode prog_1_method_2_code 52 = .ok (.iinc 4 1, 3) := by decide +kernel
theorem d_p1m2_55 : decode prog_1_method_2_code 55 = .ok (.goto (-24), 3) := by decide +kernel
theorem d_p1m2_58 : decode prog_1_method_2_code 58 = .ok (.aload_n 0, 1) := by decide +kernel
theorem d_p1m2_59 : decode prog_1_method_2_code 59 = .ok (.getfield 10, 3) := by decide +kernel
theorem d_p1m2_62 : decode prog_1_method_2_code 62 = .ok (.invokevirtual 48, 3) := by decide +kernel
theorem d_p1m2_65 : decode prog_1_method_2_code 65 = .ok (.ireturn, 1) := by decide +kernel
abbrev y_PolicyDesk_text : MethodName := ⟨"PolicyDesk", "text", "(J)I"⟩
theorem ok_PolicyDesk_text : pd_ok y_PolicyDesk_text prog_1_method_2_code 5 (some .int) 1 := ⟨mT_401, mT_1, by decide, by decide +kernel⟩
abbrev rm_PolicyDesk_text : Room := { frames := 6, cells := 8, slots := 1600, locals := 133 }
set_option maxHeartbeats 4000000 in
set_option maxRecDepth 100000 in
theorem lp_PolicyDesk_text_31 (l : Launch) (G : pd_G) (h : pd_H) {x : Nat} {A B C : Nat → Nat} {t0 : List Nat} {n : Nat} {R : Nat → pd_cr} {k : Nat} {M : Nat → pd_mr} {u : Nat} {U : Nat → pd_rr} {T : Nat → List Nat} {kp nx : Nat} {sp : Int64} {an gn sn dn : Nat} {wd : Int64} (hD : pd_DX G h x A B C t0 n R k M u U T kp nx sp an gn sn dn) {p : Program} {e : Env} {s : State} {m : MethodId} {below : List Frame} {meth : Method} {c : Code} (X : pd_B p s m [.ref x, .long wd].toArray meth c G y_PolicyDesk_text.cls prog_1_method_2_code 5 (some .int)) (hmn : meth.name = y_PolicyDesk_text.name) :
    ∀ (kk9 : Nat) (i : Nat) (hh : pd_H) (cC : Nat) (cS : Nat), (¬ gr_lin wd 8 0 = 0) → (t0.length + gr_lin wd 8 0 ≤ 60) → (i ≤ gr_lin wd 8 0) → (cC + 1 * (8 - i) ≤ 8) → (cS + 200 * (8 - i) ≤ 1600) → (pd_kx [1, 2] h hh) → (pd_DX G hh x A B C (t0 ++ (List.range i).map (gr_oct wd)) n R k M u U T kp nx sp an gn sn dn) → 8 - i < kk9 → ∀ (H : Heap) (locs : List Loc), pd_w G s H locs hh → ∀ ls : Array Slot, lv_has ls 5 [(4, .int (nI i)), (0, .ref x), (1, .long wd), (3, .int (nI (gr_lin wd 8 0)))] → W p l e rm_PolicyDesk_text s m [.ref x, .long wd].toArray below meth c H locs cC cS (MQ below (pd_Q G Value.int (fun r h1 => r = (gr_text t0 wd).1 ∧ pd_kx [1, 2] h h1 ∧ pd_DX G h1 x A B C ((gr_text t0 wd).2) n R k M u U T kp nx sp an gn sn dn)) [.ref x, .long wd].toArray s rm_PolicyDesk_text.cells rm_PolicyDesk_text.slots (fun q => G.2.1 ≤ q)) (F0 m 31 ls []) := by
  have hx := X.1
  have hb := X.2.1
  obtain ⟨lb, cl, me, ru, bk, hx0, hz_x, hsb, hC, hM, hU, hA, ht60⟩ := id hD
  have hR := hC.rows
  have hMR := hM.mrows
  have hRR := hU.rrows
  have hcw := hR.2.2
  have hAi := hR.2.1
  have hn14 := hcw.1
  have ht21 : (2 : Nat) ≠ 1 := by decide
  have ht10 : (1 : Nat) ≠ 0 := by decide
  have ht20 : (2 : Nat) ≠ 0 := by decide
  have hlin8 := gr_lin_le wd 8 0
  intro kk9
  induction kk9 with
  | zero => intros; omega
  | succ kk9 ih =>
    intro i hh cC cS hng hle hi hcC hcS hk2 hD2 hmu H locs w ls hl
    obtain ⟨lb, cl, me, ru, bk, hx0, hz_x, hsb, hC, hM, hU, hA, ht60⟩ := id hD2
    have hR := hC.rows
    have hMR := hM.mrows
    have hRR := hU.rrows
    have hcw := hR.2.2
    have hAi := hR.2.1
    have hn14 := hcw.1
    refine lv_iload hx hb d_p1m2_31 (lv_at hl 0 rfl) ?_
    refine lv_iload_n hx hb d_p1m2_33 rfl (lv_at hl 3 rfl) ?_
    refine pd_jge (tgt := 58) hx hb d_p1m2_34 (by decide) (by omega) (by omega) (fun q1 => ?_) (fun q1 => ?_)
    · -- taken: 58
      refine lv_aload_n hx hb d_p1m2_58 rfl (lv_at hl 1 rfl) ?_
      refine pd_get X w hx0 rfl 0 (by decide) mT_367 rfl rfl d_p1m2_59 ?_
      obtain ⟨v5, cap6, g7, ml8, f9, f10, gf11, gc12, gn13, gp14, ft15, hz16, hz17⟩ := id hsb
      refine pd_cV (a := lb) (As := []) (rest := []) X w f9 rfl (c_StringBuilder_length l G hh (by assumption) (by assumption) (by assumption) (by assumption) (by assumption) (by assumption) (by assumption) (by assumption)) ok_StringBuilder_length ⟨mT_409, mT_410⟩ mT_408 ⟨by decide, by decide⟩ rfl hl.1 rfl (Nat.le_of_ble_eq_true rfl) d_p1m2_62 ⟨Nat.le_trans (m := 8) (by show cC + 0 ≤ 8; omega) (by decide), Nat.le_trans (m := 1600) (by show cS + 0 ≤ 1600; omega) (by decide)⟩ (fun r2 h3 H locs hp4 w => ?_)
      refine W.widen (k := cC) (n := cS) (by show cC + 0 ≤ cC; omega) (by show cS + 0 ≤ cS; omega) ?_
      obtain ⟨e18, rfl⟩ := hp4
      exact pd_iret (v := (nI r2)) X w ⟨by unfold gr_text; rw [if_neg hng, if_neg (by omega)]; show nI _ = nI _; rw [e18, List.length_append, List.length_map, List.length_range, show i = gr_lin wd 8 0 by omega], hk2, (by unfold gr_text; rw [if_neg hng, if_neg (by omega)]; show pd_DX G hh x A B C (t0 ++ (List.range (gr_lin wd 8 0)).map (gr_oct wd)) n R k M u U T kp nx sp an gn sn dn; rw [← show i = gr_lin wd 8 0 by omega]; exact hD2)⟩ (Nat.le_trans (m := 8) (by show cC ≤ 8; omega) (by decide)) (Nat.le_trans (m := 1600) (by show cS ≤ 1600; omega) (by decide)) d_p1m2_65
    · -- not taken: 37
      refine lv_aload_n hx hb d_p1m2_37 rfl (lv_at hl 1 rfl) ?_
      refine pd_get X w hx0 rfl 0 (by decide) mT_367 rfl rfl d_p1m2_38 ?_
      refine lv_lload_n hx hb d_p1m2_41 rfl (lv_at hl 2 rfl) ?_
      refine lv_iload hx hb d_p1m2_42 (lv_at hl 0 rfl) ?_
      refine pd_cS (As := [.long wd, .int (nI i)]) (rest := [.ref lb]) X w (c_PolicyDesk_octet l G hh) ok_PolicyDesk_octet mT_406 mT_405 ⟨by decide, by decide⟩ rfl hl.1 rfl (Nat.le_of_ble_eq_true rfl) d_p1m2_44 ⟨Nat.le_trans (m := 8) (by show cC + 0 ≤ 8; omega) (by decide), Nat.le_trans (m := 1600) (by show cS + 0 ≤ 1600; omega) (by decide)⟩ (fun r19 h20 H locs hp21 w => ?_)
      refine W.widen (k := cC) (n := cS) (by show cC + 0 ≤ cC; omega) (by show cS + 0 ≤ cS; omega) ?_
      obtain ⟨e22, lt23, rfl⟩ := hp21
      subst e22
      refine pd_i2c hx hb d_p1m2_47 (by omega) ?_
      obtain ⟨v27, cap28, g29, ml30, f31, f32, gf33, gc34, gn35, gp36, ft37, hz38, hz39⟩ := id hsb
      refine pd_cV (a := lb) (As := [.int (nI (gr_oct wd i))]) (rest := []) X w f31 rfl (c_SB_appendC l G hh (by assumption) (by assumption) (by assumption) (by assumption) (by omega) (by simp only [List.length_append, List.length_map, List.length_range]; omega)) ok_SB_appendC ⟨mT_416, mT_417⟩ mT_415 ⟨by decide, by decide⟩ rfl hl.1 rfl (Nat.le_of_ble_eq_true rfl) d_p1m2_48 ⟨Nat.le_trans (m := 8) (by show cC + 1 ≤ 8; omega) (by decide), Nat.le_trans (m := 1600) (by show cS + 200 ≤ 1600; omega) (by decide)⟩ (fun r24 h25 H locs hp26 w => ?_)
      refine W.widen (k := cC + 1) (n := cS + 200) (by show cC + 1 ≤ cC + 1; omega) (by show cS + 200 ≤ cS + 200; omega) ?_
      obtain ⟨e40, k41, f42⟩ := hp26
      have f43 := k41 _ _ hx0 (show (5 : Nat) ∉ [1, 2] by decide)
      have f44 := hC.kx k41 (show (6 : Nat) ∉ [1, 2] by decide) (show (10 : Nat) ∉ [1, 2] by decide) (show (0 : Nat) ∉ [1, 2] by decide)
      have f45 := hM.kx k41 (show (11 : Nat) ∉ [1, 2] by decide) (show (12 : Nat) ∉ [1, 2] by decide) (show (0 : Nat) ∉ [1, 2] by decide)
      have f46 := hU.kx k41 (show (13 : Nat) ∉ [1, 2] by decide) (show (14 : Nat) ∉ [1, 2] by decide) (show (0 : Nat) ∉ [1, 2] by decide)
      have f47 := hA.kx k41 (show (15 : Nat) ∉ [1, 2] by decide) (show (16 : Nat) ∉ [1, 2] by decide) (show (17 : Nat) ∉ [1, 2] by decide) (show (3 : Nat) ∉ [1, 2] by decide) (show (4 : Nat) ∉ [1, 2] by decide)
      have f48 := hR.kx k41 (show (0 : Nat) ∉ [1, 2] by decide)
      have f49 := hMR.kx k41 (show (0 : Nat) ∉ [1, 2] by decide)
      have f50 := hRR.kx k41 (show (0 : Nat) ∉ [1, 2] by decide)
      subst e40
      refine lv_pop hx hb d_p1m2_51 rfl ?_
      refine pd_iinc (k := 0) (d := 1) (lv' := [(4, .int (nI (i + 1))), (0, .ref x), (1, .long wd), (3, .int (nI (gr_lin wd 8 0)))]) hx hb d_p1m2_52 (by decide) hl rfl (by decide) rfl (fun ls hl => ?_)
      refine lv_goto (tgt := 31) hx hb d_p1m2_55 (by decide) ?_
      exact ih (i + 1) h25 (cC + 1) (cS + 200) (hng) (hle) (by omega) (by omega) (by omega) (hk2.tr (k41)) (by rw [gr_tx_s]; exact ⟨lb, cl, me, ru, bk, f43, hz_x, f42, f44, f45, f46, f47, (by simp only [List.length_append, List.length_map, List.length_range, List.length_cons, List.length_nil]; omega)⟩) (by omega) _ _ w ls (lv_sub hl [0, 1, 2, 3] rfl)
set_option maxHeartbeats 4000000 in
set_option maxRecDepth 100000 in
theorem c_PolicyDesk_text (l : Launch) (G : pd_G) (h : pd_H) {x : Nat} {A B C : Nat → Nat} {t0 : List Nat} {n : Nat} {R : Nat → pd_cr} {k : Nat} {M : Nat → pd_mr} {u : Nat} {U : Nat → pd_rr} {T : Nat → List Nat} {kp nx : Nat} {sp : Int64} {an gn sn dn : Nat} {wd : Int64} (hD : pd_DX G h x A B C t0 n R k M u U T kp nx sp an gn sn dn) : pd_M l y_PolicyDesk_text prog_1_method_2_code 5 (some .int) rm_PolicyDesk_text G h [.ref x, .long wd] Value.int (fun r h1 => r = (gr_text t0 wd).1 ∧ pd_kx [1, 2] h h1 ∧ pd_DX G h1 x A B C ((gr_text t0 wd).2) n R k M u U T kp nx sp an gn sn dn) := by
  refine pd_M.of (by decide) (Nat.le_of_ble_eq_true rfl) ?_
  intro p e s m below meth c X hmn w ls hl
  have hx := X.1
  have hb := X.2.1
  have hl : lv_has ls 5 [(0, .ref x), (1, .long wd)] := hl
  obtain ⟨lb, cl, me, ru, bk, hx0, hz_x, hsb, hC, hM, hU, hA, ht60⟩ := id hD
  have hR := hC.rows
  have hMR := hM.mrows
  have hRR := hU.rrows
  have hcw := hR.2.2
  have hAi := hR.2.1
  have hn14 := hcw.1
  have ht21 : (2 : Nat) ≠ 1 := by decide
  have ht10 : (1 : Nat) ≠ 0 := by decide
  have ht20 : (2 : Nat) ≠ 0 := by decide
  have hlin8 := gr_lin_le wd 8 0
  refine lv_lload_n hx hb d_p1m2_0 rfl (lv_at hl 1 rfl) ?_
  refine pd_cS (As := [.long wd]) (rest := []) X w (c_PolicyDesk_lettersIn l G h) ok_PolicyDesk_lettersIn mT_403 mT_402 ⟨by decide, by decide⟩ rfl hl.1 rfl (Nat.le_of_ble_eq_true rfl) d_p1m2_1 ⟨by decide, by decide⟩ (fun r1 h2 H locs hp3 w => ?_)
  refine W.widen (k := 0) (n := 0) (by decide) (by decide) ?_
  obtain ⟨e4, rfl⟩ := hp3
  subst e4
  refine lv_istore_n (lv' := [(3, .int (nI (gr_lin wd 8 0))), (0, .ref x), (1, .long wd)]) hx hb d_p1m2_4 rfl hl (by decide) rfl (fun ls hl => ?_)
  refine lv_iload_n hx hb d_p1m2_5 rfl (lv_at hl 0 rfl) ?_
  refine pd_zne (tgt := 11) hx hb d_p1m2_6 (by decide) (by omega) (fun q5 => ?_) (fun q5 => ?_)
  · -- taken: 11
    refine lv_aload_n hx hb d_p1m2_11 rfl (lv_at hl 1 rfl) ?_
    refine pd_get X w hx0 rfl 0 (by decide) mT_367 rfl rfl d_p1m2_12 ?_
    obtain ⟨v9, cap10, g11, ml12, f13, f14, gf15, gc16, gn17, gp18, ft19, hz20, hz21⟩ := id hsb
    refine pd_cV (a := lb) (As := []) (rest := []) X w f13 rfl (c_StringBuilder_length l G h (by assumption) (by assumption) (by assumption) (by assumption) (by assumption) (by assumption) (by assumption) (by assumption)) ok_StringBuilder_length ⟨mT_409, mT_410⟩ mT_408 ⟨by decide, by decide⟩ rfl hl.1 rfl (Nat.le_of_ble_eq_true rfl) d_p1m2_15 ⟨by decide, by decide⟩ (fun r6 h7 H locs hp8 w => ?_)
    refine W.widen (k := 0) (n := 0) (by decide) (by decide) ?_
    obtain ⟨e22, rfl⟩ := hp8
    refine lv_iload_n hx hb d_p1m2_18 rfl (lv_at hl 0 rfl) ?_
    refine pd_iadd hx hb d_p1m2_19 ?_
    refine lv_bipush (v := nI 60) hx hb d_p1m2_20 (by decide) ?_
    refine pd_jle (tgt := 28) hx hb d_p1m2_22 (by decide) (by omega) (by omega) (fun q23 => ?_) (fun q23 => ?_)
    · -- taken: 28
      refine lv_iconst (v := nI 0) hx hb d_p1m2_28 (by decide) ?_
      refine lv_istore (lv' := [(4, .int (nI 0)), (3, .int (nI (gr_lin wd 8 0))), (0, .ref x), (1, .long wd)]) hx hb d_p1m2_29 hl (by decide) rfl (fun ls hl => ?_)
      exact lp_PolicyDesk_text_31 l G h hD X hmn (8 + 1) 0 h 0 0 (by omega) (by omega) (by omega) (by omega) (by omega) (pd_kx.rf) (by rw [List.range_zero, List.map_nil, List.append_nil]; exact hD) (by omega) _ _ w ls (lv_sub hl [0, 2, 3, 1] rfl)
    · -- not taken: 25
      refine lv_bipush (v := -5) hx hb d_p1m2_25 (by decide) ?_
      exact pd_iret (v := (-5)) X w ⟨by unfold gr_text; rw [if_neg (by omega), if_pos (by omega)], pd_kx.rf, (by unfold gr_text; rw [if_neg (by omega), if_pos (by omega)]; exact hD)⟩ (by decide) (by decide) d_p1m2_27
  · -- not taken: 9
    refine lv_iconst (v := -1) hx hb d_p1m2_9 (by decide) ?_
    exact pd_iret (v := (-1)) X w ⟨by unfold gr_text; rw [if_pos (by omega)], pd_kx.rf, (by unfold gr_text; rw [if_pos (by omega)]; exact hD)⟩ (by decide) (by decide) d_p1m2_10
theorem d_p1m4_0 : decode prog_1_method_4_code 0 = .ok (.aload_n 0, 1) := by decide +kernel
theorem d_p1m4_1 : decode prog_1_method_4_code 1 = .ok (.getfield 10, 3) := by decide +kernel
theorem d_p1m4_4 : decode prog_1_method_4_code 4 = .ok (.invokevirtual 48, 3) := by decide +kernel
theorem d_p1m4_7 : decode prog_1_method_4_code 7 = .ok (.istore_n 1, 1) := by decide +kernel
theorem d_p1m4_8 : decode prog_1_method_4_code 8 = .ok (.aload_n 0, 1) := by decide +kernel
theorem d_p1m4_9 : decode prog_1_method_4_code 9 = .ok (.getfield 10, 3) := by decide +kernel
theorem d_p1m4_12 : decode prog_1_method_4_code 12 = .ok (.iconst 0, 1) := by decide +kernel
theorem d_p1m4_13 : decode prog_1_method_4_code 13 = .ok (.invokevirtual 69, 3) := by decide +kernel
theorem d_p1m4_16 : decode prog_1_method_4_code 16 = .ok (.iload_n 1, 1) := by decide +kernel
theorem d_p1m4_17 : decode prog_1_method_4_code 17 = .ok (.ireturn, 1) := by decide +kernel
abbrev y_PolicyDesk_drop : MethodName := ⟨"PolicyDesk", "drop", "()I"⟩
theorem ok_PolicyDesk_drop : pd_ok y_PolicyDesk_drop prog_1_method_4_code 2 (some .int) 0 := ⟨mT_1077, mT_1, by decide, by decide +kernel⟩
abbrev rm_PolicyDesk_drop : Room := { frames := 6, cells := 1, slots := 200, locals := 133 }
set_option maxHeartbeats 4000000 in
set_option maxRecDepth 100000 in
theorem c_PolicyDesk_drop (l : Launch) (G : pd_G) (h : pd_H) {x : Nat} {A B C : Nat → Nat} {t0 : List Nat} {n : Nat} {R : Nat → pd_cr} {k : Nat} {M : Nat → pd_mr} {u : Nat} {U : Nat → pd_rr} {T : Nat → List Nat} {kp nx : Nat} {sp : Int64} {an gn sn dn : Nat} (hD : pd_DX G h x A B C t0 n R k M u U T kp nx sp an gn sn dn) : pd_M l y_PolicyDesk_drop prog_1_method_4_code 2 (some .int) rm_PolicyDesk_drop G h [.ref x] Value.int (fun r h1 => r = nI t0.length ∧ pd_kx [1, 2] h h1 ∧ pd_DX G h1 x A B C ([]) n R k M u U T kp nx sp an gn sn dn) := by
  refine pd_M.of (by decide) (Nat.le_of_ble_eq_true rfl) ?_
  intro p e s m below meth c X hmn w ls hl
  have hx := X.1
  have hb := X.2.1
  have hl : lv_has ls 2 [(0, .ref x)] := hl
  obtain ⟨lb, cl, me, ru, bk, hx0, hz_x, hsb, hC, hM, hU, hA, ht60⟩ := id hD
  have hR := hC.rows
  have hMR := hM.mrows
  have hRR := hU.rrows
  have hcw := hR.2.2
  have hAi := hR.2.1
  have hn14 := hcw.1
  have ht21 : (2 : Nat) ≠ 1 := by decide
  have ht10 : (1 : Nat) ≠ 0 := by decide
  have ht20 : (2 : Nat) ≠ 0 := by decide
  refine lv_aload_n hx hb d_p1m4_0 rfl (lv_at hl 0 rfl) ?_
  refine pd_get X w hx0 rfl 0 (by decide) mT_367 rfl rfl d_p1m4_1 ?_
  obtain ⟨v4, cap5, g6, ml7, f8, f9, gf10, gc11, gn12, gp13, ft14, hz15, hz16⟩ := id hsb
  refine pd_cV (a := lb) (As := []) (rest := []) X w f8 rfl (c_StringBuilder_length l G h (by assumption) (by assumption) (by assumption) (by assumption) (by assumption) (by assumption) (by assumption) (by assumption)) ok_StringBuilder_length ⟨mT_409, mT_410⟩ mT_408 ⟨by decide, by decide⟩ rfl hl.1 rfl (Nat.le_of_ble_eq_true rfl) d_p1m4_4 ⟨by decide, by decide⟩ (fun r1 h2 H locs hp3 w => ?_)
  refine W.widen (k := 0) (n := 0) (by decide) (by decide) ?_
  obtain ⟨e17, rfl⟩ := hp3
  refine lv_istore_n (lv' := [(1, .int (nI r1)), (0, .ref x)]) hx hb d_p1m4_7 rfl hl (by decide) rfl (fun ls hl => ?_)
  refine lv_aload_n hx hb d_p1m4_8 rfl (lv_at hl 1 rfl) ?_
  refine pd_get X w hx0 rfl 0 (by decide) mT_367 rfl rfl d_p1m4_9 ?_
  refine lv_iconst (v := nI 0) hx hb d_p1m4_12 (by decide) ?_
  refine pd_cVv (a := lb) (As := [.int (nI 0)]) (rest := []) X w f8 rfl (c_SB_setLength l G h (by assumption) (by assumption) (by assumption) (by assumption)) ok_SB_setLength ⟨mT_554, mT_555⟩ mT_553 ⟨by decide, by decide⟩ rfl hl.1 rfl (Nat.le_of_ble_eq_true rfl) d_p1m4_13 ⟨by decide, by decide⟩ (fun h19 H locs hp20 w => ?_)
  refine W.widen (k := 1) (n := 200) (by decide) (by decide) ?_
  obtain ⟨k22, f23⟩ := hp20
  have f24 := k22 _ _ hx0 (show (5 : Nat) ∉ [1, 2] by decide)
  have f25 := hC.kx k22 (show (6 : Nat) ∉ [1, 2] by decide) (show (10 : Nat) ∉ [1, 2] by decide) (show (0 : Nat) ∉ [1, 2] by decide)
  have f26 := hM.kx k22 (show (11 : Nat) ∉ [1, 2] by decide) (show (12 : Nat) ∉ [1, 2] by decide) (show (0 : Nat) ∉ [1, 2] by decide)
  have f27 := hU.kx k22 (show (13 : Nat) ∉ [1, 2] by decide) (show (14 : Nat) ∉ [1, 2] by decide) (show (0 : Nat) ∉ [1, 2] by decide)
  have f28 := hA.kx k22 (show (15 : Nat) ∉ [1, 2] by decide) (show (16 : Nat) ∉ [1, 2] by decide) (show (17 : Nat) ∉ [1, 2] by decide) (show (3 : Nat) ∉ [1, 2] by decide) (show (4 : Nat) ∉ [1, 2] by decide)
  have f29 := hR.kx k22 (show (0 : Nat) ∉ [1, 2] by decide)
  have f30 := hMR.kx k22 (show (0 : Nat) ∉ [1, 2] by decide)
  have f31 := hRR.kx k22 (show (0 : Nat) ∉ [1, 2] by decide)
  refine lv_iload_n hx hb d_p1m4_16 rfl (lv_at hl 0 rfl) ?_
  exact pd_iret (v := (nI r1)) X w ⟨by rw [e17], k22, ⟨lb, cl, me, ru, bk, f24, hz_x, f23, f25, f26, f27, f28, (Nat.zero_le _)⟩⟩ (by decide) (by decide) d_p1m4_17
theorem d_p1m9_0 : decode prog_1_method_9_code 0 = .ok (.aload_n 0, 1) := by decide +kernel
theorem d_p1m9_1 : decode prog_1_method_9_code 1 = .ok (.getfield 178, 3) := by decide +kernel
theorem d_p1m9_4 : decode prog_1_method_9_code 4 = .ok (.lreturn, 1) := by decide +kernel
abbrev y_PolicyDesk_total : MethodName := ⟨"PolicyDesk", "total", "()J"⟩
theorem ok_PolicyDesk_total : pd_ok y_PolicyDesk_total prog_1_method_9_code 1 (some .long) 0 := ⟨mT_1121, mT_1, by decide, by decide +kernel⟩
abbrev rm_PolicyDesk_total : Room := { frames := 0, cells := 0, slots := 0, locals := 0 }
set_option maxHeartbeats 4000000 in
set_option maxRecDepth 100000 in
theorem c_PolicyDesk_total (l : Launch) (G : pd_G) (h : pd_H) {x : Nat} {A B C : Nat → Nat} {t0 : List Nat} {n : Nat} {R : Nat → pd_cr} {k : Nat} {M : Nat → pd_mr} {u : Nat} {U : Nat → pd_rr} {T : Nat → List Nat} {kp nx : Nat} {sp : Int64} {an gn sn dn : Nat} (hD : pd_DX G h x A B C t0 n R k M u U T kp nx sp an gn sn dn) : pd_M l y_PolicyDesk_total prog_1_method_9_code 1 (some .long) rm_PolicyDesk_total G h [.ref x] Value.long (fun r h1 => r = sp ∧ h = h1) := by
  refine pd_M.of (by decide) (Nat.le_of_ble_eq_true rfl) ?_
  intro p e s m below meth c X hmn w ls hl
  have hx := X.1
  have hb := X.2.1
  have hl : lv_has ls 1 [(0, .ref x)] := hl
  obtain ⟨lb, cl, me, ru, bk, hx0, hz_x, hsb, hC, hM, hU, hA, ht60⟩ := id hD
  have hR := hC.rows
  have hMR := hM.mrows
  have hRR := hU.rrows
  have hcw := hR.2.2
  have hAi := hR.2.1
  have hn14 := hcw.1
  have ht21 : (2 : Nat) ≠ 1 := by decide
  have ht10 : (1 : Nat) ≠ 0 := by decide
  have ht20 : (2 : Nat) ≠ 0 := by decide
  refine lv_aload_n hx hb d_p1m9_0 rfl (lv_at hl 0 rfl) ?_
  refine pd_get X w hx0 rfl 5 (by decide) mT_372 rfl rfl d_p1m9_1 ?_
  exact pd_lret (v := sp) X w ⟨rfl, rfl⟩ (by decide) (by decide) d_p1m9_4
theorem d_p1m7_0 : decode prog_1_method_7_code 0 = .ok (.aload_n 0, 1) := by decide +kernel
theorem d_p1m7_1 : decode prog_1_method_7_code 1 = .ok (.getfield 40, 3) := by decide +kernel
theorem d_p1m7_4 : decode prog_1_method_7_code 4 = .ok (.iload_n 1, 1) := by decide +kernel
theorem d_p1m7_5 : decode prog_1_method_7_code 5 = .ok (.iload_n 2, 1) := by decide +kernel
theorem d_p1m7_6 : decode prog_1_method_7_code 6 = .ok (.invokevirtual 170, 3) := by decide +kernel
theorem d_p1m7_9 : decode prog_1_method_7_code 9 = .ok (.ireturn, 1) := by decide +kernel
abbrev y_PolicyDesk_audit : MethodName := ⟨"PolicyDesk", "audit", "(II)I"⟩
theorem ok_PolicyDesk_audit : pd_ok y_PolicyDesk_audit prog_1_method_7_code 3 (some .int) 2 := ⟨mT_1105, mT_1, by decide, by decide +kernel⟩
abbrev rm_PolicyDesk_audit : Room := { frames := 2, cells := 0, slots := 0, locals := 45 }
set_option maxHeartbeats 4000000 in
set_option maxRecDepth 100000 in
theorem c_PolicyDesk_audit (l : Launch) (G : pd_G) (h : pd_H) {x : Nat} {A B C : Nat → Nat} {t0 : List Nat} {n : Nat} {R : Nat → pd_cr} {k : Nat} {M : Nat → pd_mr} {u : Nat} {U : Nat → pd_rr} {T : Nat → List Nat} {kp nx : Nat} {sp : Int64} {an gn sn dn : Nat} {k0 i0 : Int32} (hD : pd_DX G h x A B C t0 n R k M u U T kp nx sp an gn sn dn) : pd_M l y_PolicyDesk_audit prog_1_method_7_code 3 (some .int) rm_PolicyDesk_audit G h [.ref x, .int k0, .int i0] Value.int (fun r h1 => r = gr_lat T kp nx k0 i0 ∧ h = h1) := by
  refine pd_M.of (by decide) (Nat.le_of_ble_eq_true rfl) ?_
  intro p e s m below meth c X hmn w ls hl
  have hx := X.1
  have hb := X.2.1
  have hl : lv_has ls 3 [(0, .ref x), (1, .int k0), (2, .int i0)] := hl
  obtain ⟨lb, cl, me, ru, bk, hx0, hz_x, hsb, hC, hM, hU, hA, ht60⟩ := id hD
  have hR := hC.rows
  have hMR := hM.mrows
  have hRR := hU.rrows
  have hcw := hR.2.2
  have hAi := hR.2.1
  have hn14 := hcw.1
  have ht21 : (2 : Nat) ≠ 1 := by decide
  have ht10 : (1 : Nat) ≠ 0 := by decide
  have ht20 : (2 : Nat) ≠ 0 := by decide
  refine lv_aload_n hx hb d_p1m7_0 rfl (lv_at hl 0 rfl) ?_
  refine pd_get X w hx0 rfl 4 (by decide) mT_371 rfl rfl d_p1m7_1 ?_
  refine lv_iload_n hx hb d_p1m7_4 rfl (lv_at hl 1 rfl) ?_
  refine lv_iload_n hx hb d_p1m7_5 rfl (lv_at hl 2 rfl) ?_
  obtain ⟨le4, ln5, dr6, g7, g8, ds9, f10, f11, f12, f13, g14, z15, z16, hz17, hz18, hz19⟩ := id hA
  refine pd_cV (a := bk) (As := [.int k0, .int i0]) (rest := []) X w f10 rfl (c_Audit_letterAt l G h (by assumption)) ok_Audit_letterAt ⟨mT_1107, mT_1108⟩ mT_1106 ⟨by decide, by decide⟩ rfl hl.1 rfl (Nat.le_of_ble_eq_true rfl) d_p1m7_6 ⟨by decide, by decide⟩ (fun r1 h2 H locs hp3 w => ?_)
  refine W.widen (k := 0) (n := 0) (by decide) (by decide) ?_
  obtain ⟨e20, rfl⟩ := hp3
  exact pd_iret (v := r1) X w ⟨by assumption, rfl⟩ (by decide) (by decide) d_p1m7_9
theorem d_p1m13_0 : decode prog_1_method_13_code 0 = .ok (.aload_n 0, 1) := by decide +kernel
theorem d_p1m13_1 : decode prog_1_method_13_code 1 = .ok (.ifnonnull 7, 3) := by decide +kernel
theorem d_p1m13_4 : decode prog_1_method_13_code 4 = .ok (.iload_n 1, 1) := by decide +kernel
theorem d_p1m13_5 : decode prog_1_method_13_code 5 = .ok (.goto 7, 3) := by decide +kernel
theorem d_p1m13_8 : decode prog_1_method_13_code 8 = .ok (.aload_n 0, 1) := by decide +kernel
theorem d_p1m13_9 : decode prog_1_method_13_code 9 = .ok (.getfield 160, 3) := by decide +kernel
theorem d_p1m13_12 : decode prog_1_method_13_code 12 = .ok (.ireturn, 1) := by decide +kernel
abbrev y_PolicyDesk_numberOr : MethodName := ⟨"PolicyDesk", "numberOr", "(LPolicyDesk$ClassRow;I)I"⟩
theorem ok_PolicyDesk_numberOr : pd_ok y_PolicyDesk_numberOr prog_1_method_13_code 2 (some .int) 2 := ⟨mT_1088, mT_1, by decide, by decide +kernel⟩
abbrev rm_PolicyDesk_numberOr : Room := { frames := 0, cells := 0, slots := 0, locals := 0 }
set_option maxHeartbeats 4000000 in
set_option maxRecDepth 100000 in
theorem c_PolicyDesk_numberOr (l : Launch) (G : pd_G) (h : pd_H) {A : Nat → Nat} {n : Nat} {R : Nat → pd_cr} {o : Option Nat} {ot : Int32} (hR : pd_Rows G h A n R) (ho : ∀ k, o = some k → k < n) : pd_M l y_PolicyDesk_numberOr prog_1_method_13_code 2 (some .int) rm_PolicyDesk_numberOr G h [va_rf (o.map A), .int ot] Value.int (fun r h1 => r = gr_no o ot ∧ h = h1) := by
  refine pd_M.of (by decide) (by cases o <;> exact Nat.le_of_ble_eq_true rfl) ?_
  intro p e s m below meth c X hmn w ls hl
  have hx := X.1
  have hb := X.2.1
  have hl : lv_has ls 2 [(0, va_rf (o.map A)), (1, .int ot)] := by simp only [lv_args, pd_cat] at hl; simpa [Value.category] using hl
  have hcw := hR.2.2
  have hAi := hR.2.1
  have hn14 := hcw.1
  refine pd_oload_n hx hb d_p1m13_0 rfl (lv_at hl 0 rfl) ?_
  rcases pd_oc o with q1 | ⟨i3, q1⟩
  · -- none
    refine pd_top (v' := .null) (by rw [q1]; rfl) ?_
    rw [q1] at hl
    have hl : lv_has ls 2 [(0, .null), (1, .int ot)] := hl
    refine lv_ifnonnullN hx hb d_p1m13_1 ?_
    refine lv_iload_n hx hb d_p1m13_4 rfl (lv_at hl 1 rfl) ?_
    refine lv_goto (tgt := 12) hx hb d_p1m13_5 (by decide) ?_
    exact pd_iret (v := ot) X w ⟨by rw [q1]; rfl, rfl⟩ (by decide) (by decide) d_p1m13_12
  · -- some
    refine pd_top (v' := .ref (A i3)) (by rw [q1]; rfl) ?_
    rw [q1] at hl
    have hl : lv_has ls 2 [(0, .ref (A i3)), (1, .int ot)] := hl
    have i3lt := ho i3 q1
    refine lv_ifnonnull (tgt := 8) hx hb d_p1m13_1 (by decide) ?_
    refine lv_aload_n hx hb d_p1m13_8 rfl (lv_at hl 0 rfl) ?_
    obtain ⟨nm6, fx7, f8, f9, f10⟩ := hR.1 i3 (by omega)
    obtain ⟨v11, g12, f13, f14, gf15, gc16, gl17⟩ := id f9
    obtain ⟨v18, cap19, g20, f21, z22, z23, z24, z25, z26⟩ := id f10
    refine pd_get X w f8 rfl 0 (by decide) mT_254 rfl rfl d_p1m13_9 ?_
    exact pd_iret (v := (nI i3)) X w ⟨by rw [q1]; rfl, rfl⟩ (by decide) (by decide) d_p1m13_12
theorem d_p1m15_0 : decode prog_1_method_15_code 0 = .ok (.aload_n 0, 1) := by decide +kernel
theorem d_p1m15_1 : decode prog_1_method_15_code 1 = .ok (.ifnull 14, 3) := by decide +kernel
theorem d_p1m15_4 : decode prog_1_method_15_code 4 = .ok (.aload_n 0, 1) := by decide +kernel
theorem d_p1m15_5 : decode prog_1_method_15_code 5 = .ok (.getfield 131, 3) := by decide +kernel
theorem d_p1m15_8 : decode prog_1_method_15_code 8 = .ok (.ifCond .ne 7, 3) := by decide +kernel
theorem d_p1m15_11 : decode prog_1_method_15_code 11 = .ok (.iconst 1, 1) := by decide +kernel
theorem d_p1m15_12 : decode prog_1_method_15_code 12 = .ok (.goto 4, 3) := by decide +kernel
theorem d_p1m15_15 : decode prog_1_method_15_code 15 = .ok (.iconst 0, 1) := by decide +kernel
theorem d_p1m15_16 : decode prog_1_method_15_code 16 = .ok (.ireturn, 1) := by decide +kernel
abbrev y_PolicyDesk_isPlainClass : MethodName := ⟨"PolicyDesk", "isPlainClass", "(LPolicyDesk$ClassRow;)Z"⟩
theorem ok_PolicyDesk_isPlainClass : pd_ok y_PolicyDesk_isPlainClass prog_1_method_15_code 1 (some .boolean) 1 := ⟨mT_779, mT_1, by decide, by decide +kernel⟩
abbrev rm_PolicyDesk_isPlainClass : Room := { frames := 0, cells := 0, slots := 0, locals := 0 }
set_option maxHeartbeats 4000000 in
set_option maxRecDepth 100000 in
theorem c_PolicyDesk_isPlainClass (l : Launch) (G : pd_G) (h : pd_H) {A : Nat → Nat} {n : Nat} {R : Nat → pd_cr} {o : Option Nat} (hR : pd_Rows G h A n R) (ho : ∀ k, o = some k → k < n) : pd_M l y_PolicyDesk_isPlainClass prog_1_method_15_code 1 (some .boolean) rm_PolicyDesk_isPlainClass G h [va_rf (o.map A)] pd_vb (fun r h1 => r = gr_pc R o ∧ h = h1) := by
  refine pd_M.of (by decide) (by cases o <;> exact Nat.le_of_ble_eq_true rfl) ?_
  intro p e s m below meth c X hmn w ls hl
  have hx := X.1
  have hb := X.2.1
  have hl : lv_has ls 1 [(0, va_rf (o.map A))] := by simp only [lv_args, pd_cat] at hl; simpa [Value.category] using hl
  have hcw := hR.2.2
  have hAi := hR.2.1
  have hn14 := hcw.1
  refine pd_oload_n hx hb d_p1m15_0 rfl (lv_at hl 0 rfl) ?_
  rcases pd_oc o with q1 | ⟨i3, q1⟩
  · -- none
    refine pd_top (v' := .null) (by rw [q1]; rfl) ?_
    rw [q1] at hl
    have hl : lv_has ls 1 [(0, .null)] := hl
    refine lv_ifnullN (tgt := 15) hx hb d_p1m15_1 (by decide) ?_
    refine lv_iconst (v := nI 0) hx hb d_p1m15_15 (by decide) ?_
    refine W.eq (g2 := F0 m 16 ls [.int (pd_b false)]) rfl ?_
    exact pd_zret (v := false) X w ⟨by rw [q1]; rfl, rfl⟩ (by decide) (by decide) d_p1m15_16
  · -- some
    refine pd_top (v' := .ref (A i3)) (by rw [q1]; rfl) ?_
    rw [q1] at hl
    have hl : lv_has ls 1 [(0, .ref (A i3))] := hl
    have i3lt := ho i3 q1
    refine lv_ifnull hx hb d_p1m15_1 ?_
    refine lv_aload_n hx hb d_p1m15_4 rfl (lv_at hl 0 rfl) ?_
    obtain ⟨nm6, fx7, f8, f9, f10⟩ := hR.1 i3 (by omega)
    obtain ⟨v11, g12, f13, f14, gf15, gc16, gl17⟩ := id f9
    obtain ⟨v18, cap19, g20, f21, z22, z23, z24, z25, z26⟩ := id f10
    refine pd_get X w f8 rfl 2 (by decide) mT_260 rfl rfl d_p1m15_5 ?_
    refine pd_bne (tgt := 15) hx hb d_p1m15_8 (by decide) (fun q27 => ?_) (fun q27 => ?_)
    · -- taken: 15
      refine lv_iconst (v := nI 0) hx hb d_p1m15_15 (by decide) ?_
      refine W.eq (g2 := F0 m 16 ls [.int (pd_b false)]) rfl ?_
      exact pd_zret (v := false) X w ⟨by rw [q1]; show _ = !(R i3).2.1; rw [q27]; rfl, rfl⟩ (by decide) (by decide) d_p1m15_16
    · -- not taken: 11
      refine lv_iconst (v := nI 1) hx hb d_p1m15_11 (by decide) ?_
      refine lv_goto (tgt := 16) hx hb d_p1m15_12 (by decide) ?_
      refine W.eq (g2 := F0 m 16 ls [.int (pd_b true)]) rfl ?_
      exact pd_zret (v := true) X w ⟨by rw [q1]; show _ = !(R i3).2.1; rw [q27]; rfl, rfl⟩ (by decide) (by decide) d_p1m15_16
theorem d_p1m5_0 : decode prog_1_method_5_code 0 = .ok (.aload_n 0, 1) := by decide +kernel
theorem d_p1m5_1 : decode prog_1_method_5_code 1 = .ok (.getfield 19, 3) := by decide +kernel
theorem d_p1m5_4 : decode prog_1_method_5_code 4 = .ok (.iload_n 1, 1) := by decide +kernel
theorem d_p1m5_5 : decode prog_1_method_5_code 5 = .ok (.invokevirtual 117, 3) := by decide +kernel
theorem d_p1m5_8 : decode prog_1_method_5_code 8 = .ok (.astore_n 3, 1) := by decide +kernel
theorem d_p1m5_9 : decode prog_1_method_5_code 9 = .ok (.aload_n 3, 1) := by decide +kernel
theorem d_p1m5_10 : decode prog_1_method_5_code 10 = .ok (.ifnonnull 6, 3) := by decide +kernel
theorem d_p1m5_13 : decode prog_1_method_5_code 13 = .ok (.bipush (-2), 2) := by decide +kernel
theorem d_p1m5_15 : decode prog_1_method_5_code 15 = .ok (.ireturn, 1) := by decide +kernel
theorem d_p1m5_16 : decode prog_1_method_5_code 16 = .ok (.iload_n 2, 1) := by decide +kernel
theorem d_p1m5_17 : decode prog_1_method_5_code 17 = .ok (.tableswitch 128 0 6 #[43, 52, 65, 91, 101, 111, 120], 43) := by decide +kernel
theorem d_p1m5_60 : decode prog_1_method_5_code 60 = .ok (.aload_n 3, 1) := by decide +kernel
theorem d_p1m5_61 : decode prog_1_method_5_code 61 = .ok (.getfield 121, 3) := by decide +kernel
theorem d_p1m5_64 : decode prog_1_method_5_code 64 = .ok (.iconst (-1), 1) := by decide +kernel
theorem d_p1m5_65 : decode prog_1_method_5_code 65 = .ok (.invokestatic 127, 3) := by decide +kernel
theorem d_p1m5_68 : decode prog_1_method_5_code 68 = .ok (.ireturn, 1) := by decide +kernel
theorem d_p1m5_69 : decode prog_1_method_5_code 69 = .ok (.aload_n 3, 1) := by decide +kernel
theorem d_p1m5_70 : decode prog_1_method_5_code 70 = .ok (.getfield 131, 3) := by decide +kernel
theorem d_p1m5_73 : decode prog_1_method_5_code 73 = .ok (.ifCond .eq 7, 3) := by decide +kernel
theorem d_p1m5_76 : decode prog_1_method_5_code 76 = .ok (.iconst 1, 1) := by decide +kernel
theorem d_p1m5_77 : decode prog_1_method_5_code 77 = .ok (.goto 4, 3) := by decide +kernel
theorem d_p1m5_80 : decode prog_1_method_5_code 80 = .ok (.iconst 0, 1) := by decide +kernel
theorem d_p1m5_81 : decode prog_1_method_5_code 81 = .ok (.ireturn, 1) := by decide +kernel
theorem d_p1m5_82 : decode prog_1_method_5_code 82 = .ok (.aload_n 3, 1) := by decide +kernel
theorem d_p1m5_83 : decode prog_1_method_5_code 83 = .ok (.getfield 135, 3) := by decide +kernel
theorem d_p1m5_86 : decode prog_1_method_5_code 86 = .ok (.ifnonnull 7, 3) := by decide +kernel
theorem d_p1m5_89 : decode prog_1_method_5_code 89 = .ok (.iconst 0, 1) := by decide +kernel
theorem d_p1m5_90 : decode prog_1_method_5_code 90 = .ok (.goto 4, 3) := by decide +kernel
theorem d_p1m5_93 : decode prog_1_method_5_code 93 = .ok (.iconst 1, 1) := by decide +kernel
theorem d_p1m5_94 : decode prog_1_method_5_code 94 = .ok (.aload_n 3, 1) := by decide +kernel
theorem d_p1m5_95 : decode prog_1_method_5_code 95 = .ok (.getfield 138, 3) := by decide +kernel
theorem d_p1m5_98 : decode prog_1_method_5_code 98 = .ok (.ifnonnull 7, 3) := by decide +kernel
theorem d_p1m5_101 : decode prog_1_method_5_code 101 = .ok (.iconst 0, 1) := by decide +kernel
theorem d_p1m5_102 : decode prog_1_method_5_code 102 = .ok (.goto 4, 3) := by decide +kernel
theorem d_p1m5_105 : decode prog_1_method_5_code 105 = .ok (.iconst 1, 1) := by decide +kernel
theorem d_p1m5_106 : decode prog_1_method_5_code 106 = .ok (.iadd, 1) := by decide +kernel
theorem d_p1m5_107 : decode prog_1_method_5_code 107 = .ok (.ireturn, 1) := by decide +kernel
theorem d_p1m5_108 : decode prog_1_method_5_code 108 = .ok (.aload_n 3, 1) := by decide +kernel
theorem d_p1m5_109 : decode prog_1_method_5_code 109 = .ok (.getfield 135, 3) := by decide +kernel
theorem d_p1m5_112 : decode prog_1_method_5_code 112 = .ok (.bipush (-2), 2) := by decide +kernel
theorem d_p1m5_114 : decode prog_1_method_5_code 114 = .ok (.invokestatic 127, 3) := by decide +kernel
theorem d_p1m5_117 : decode prog_1_method_5_code 117 = .ok (.ireturn, 1) := by decide +kernel
theorem d_p1m5_118 : decode prog_1_method_5_code 118 = .ok (.aload_n 3, 1) := by decide +kernel
theorem d_p1m5_119 : decode prog_1_method_5_code 119 = .ok (.getfield 138, 3) := by decide +kernel
theorem d_p1m5_122 : decode prog_1_method_5_code 122 = .ok (.bipush (-2), 2) := by decide +kernel
theorem d_p1m5_124 : decode prog_1_method_5_code 124 = .ok (.invokestatic 127, 3) := by decide +kernel
theorem d_p1m5_127 : decode prog_1_method_5_code 127 = .ok (.ireturn, 1) := by decide +kernel
theorem d_p1m5_128 : decode prog_1_method_5_code 128 = .ok (.aload_n 0, 1) := by decide +kernel
theorem d_p1m5_129 : decode prog_1_method_5_code 129 = .ok (.getfield 26, 3) := by decide +kernel
theorem d_p1m5_132 : decode prog_1_method_5_code 132 = .ok (.aload_n 3, 1) := by decide +kernel
theorem d_p1m5_133 : decode prog_1_method_5_code 133 = .ok (.invokevirtual 141, 3) := by decide +kernel
theorem d_p1m5_136 : decode prog_1_method_5_code 136 = .ok (.ireturn, 1) := by decide +kernel
theorem d_p1m5_137 : decode prog_1_method_5_code 137 = .ok (.aload_n 3, 1) := by decide +kernel
theorem d_p1m5_138 : decode prog_1_method_5_code 138 = .ok (.getfield 145, 3) := by decide +kernel
theorem d_p1m5_141 : decode prog_1_method_5_code 141 = .ok (.invokevirtual 149, 3) := by decide +kernel
theorem d_p1m5_144 : decode prog_1_method_5_code 144 = .ok (.ireturn, 1) := by decide +kernel
theorem d_p1m5_145 : decode prog_1_method_5_code 145 = .ok (.bipush (-2), 2) := by decide +kernel
theorem d_p1m5_147 : decode prog_1_method_5_code 147 = .ok (.ireturn, 1) := by decide +kernel
abbrev y_PolicyDesk_cls : MethodName := ⟨"PolicyDesk", "cls", "(II)I"⟩
theorem ok_PolicyDesk_cls : pd_ok y_PolicyDesk_cls prog_1_method_5_code 4 (some .int) 2 := ⟨mT_1081, mT_1, by decide, by decide +kernel⟩
abbrev rm_PolicyDesk_cls : Room := { frames := 2, cells := 0, slots := 0, locals := 40 }
set_option maxHeartbeats 4000000 in
set_option maxRecDepth 100000 in
theorem c_PolicyDesk_cls (l : Launch) (G : pd_G) (h : pd_H) {x : Nat} {A B C : Nat → Nat} {t0 : List Nat} {n : Nat} {R : Nat → pd_cr} {k : Nat} {M : Nat → pd_mr} {u : Nat} {U : Nat → pd_rr} {T : Nat → List Nat} {kp nx : Nat} {sp : Int64} {an gn sn dn : Nat} {c0 wh : Int32} (hD : pd_DX G h x A B C t0 n R k M u U T kp nx sp an gn sn dn) : pd_M l y_PolicyDesk_cls prog_1_method_5_code 4 (some .int) rm_PolicyDesk_cls G h [.ref x, .int c0, .int wh] Value.int (fun r h1 => r = gr_cls n R k M c0 wh ∧ h = h1) := by
  refine pd_M.of (by decide) (Nat.le_of_ble_eq_true rfl) ?_
  intro p e s m below meth c X hmn w ls hl
  have hx := X.1
  have hb := X.2.1
  have hl : lv_has ls 4 [(0, .ref x), (1, .int c0), (2, .int wh)] := hl
  obtain ⟨lb, cl, me, ru, bk, hx0, hz_x, hsb, hC, hM, hU, hA, ht60⟩ := id hD
  have hR := hC.rows
  have hMR := hM.mrows
  have hRR := hU.rrows
  have hcw := hR.2.2
  have hAi := hR.2.1
  have hn14 := hcw.1
  have ht21 : (2 : Nat) ≠ 1 := by decide
  have ht10 : (1 : Nat) ≠ 0 := by decide
  have ht20 : (2 : Nat) ≠ 0 := by decide
  refine lv_aload_n hx hb d_p1m5_0 rfl (lv_at hl 0 rfl) ?_
  refine pd_get X w hx0 rfl 1 (by decide) mT_368 rfl rfl d_p1m5_1 ?_
  refine lv_iload_n hx hb d_p1m5_4 rfl (lv_at hl 1 rfl) ?_
  obtain ⟨ar4, g5, f6, f7, g8, hz9, hz10, z11, f12⟩ := id hC
  refine pd_cV (a := cl) (As := [.int c0]) (rest := []) X w f6 rfl (c_Classes_at l G h (by assumption)) ok_Classes_at ⟨mT_1083, mT_1084⟩ mT_1082 ⟨by decide, by decide⟩ rfl hl.1 rfl (Nat.le_of_ble_eq_true rfl) d_p1m5_5 ⟨by decide, by decide⟩ (fun r1 h2 H locs hp3 w => ?_)
  refine W.widen (k := 0) (n := 0) (by decide) (by decide) ?_
  obtain ⟨e13, rfl⟩ := hp3
  refine pd_ostore_n (lv' := [(3, va_rf r1), (0, .ref x), (1, .int c0), (2, .int wh)]) hx hb d_p1m5_8 rfl hl (by decide) rfl (fun ls hl => ?_)
  refine pd_oload_n hx hb d_p1m5_9 rfl (lv_at hl 0 rfl) ?_
  rcases pd_om e13 with ⟨q14, q17⟩ | ⟨i16, q14, q17⟩
  · -- none
    refine pd_top (v' := .null) (by rw [q17]; rfl) ?_
    rw [q17] at hl
    have hl : lv_has ls 4 [(3, .null), (0, .ref x), (1, .int c0), (2, .int wh)] := hl
    refine lv_ifnonnullN hx hb d_p1m5_10 ?_
    refine lv_bipush (v := -2) hx hb d_p1m5_13 (by decide) ?_
    exact pd_iret (v := (-2)) X w ⟨by simp only [gr_cls, q14], rfl⟩ (by decide) (by decide) d_p1m5_15
  · -- some
    refine pd_top (v' := .ref (A i16)) (by rw [q17]; rfl) ?_
    rw [q17] at hl
    have hl : lv_has ls 4 [(3, .ref (A i16)), (0, .ref x), (1, .int c0), (2, .int wh)] := hl
    have i16lt := pd_ixs q14
    refine lv_ifnonnull (tgt := 16) hx hb d_p1m5_10 (by decide) ?_
    refine lv_iload_n hx hb d_p1m5_16 rfl (lv_at hl 3 rfl) ?_
    by_cases z21 : wh = nI 0
    · -- case 0: 60
      refine lv_tableIn (tgt := 60) hx hb d_p1m5_17 (by rw [z21]; decide) (by rw [z21]; decide) (by rw [z21]; rfl) (by decide) ?_
      refine lv_aload_n hx hb d_p1m5_60 rfl (lv_at hl 0 rfl) ?_
      obtain ⟨nm22, fx23, f24, f25, f26⟩ := hR.1 i16 (by omega)
      obtain ⟨v27, g28, f29, f30, gf31, gc32, gl33⟩ := id f25
      obtain ⟨v34, cap35, g36, f37, z38, z39, z40, z41, z42⟩ := id f26
      refine pd_get X w f24 rfl 3 (by decide) mT_262 rfl rfl d_p1m5_61 ?_
      refine lv_iconst (v := -1) hx hb d_p1m5_64 (by decide) ?_
      refine pd_cS (As := [va_rf ((R i16).2.2.1.map A), .int (-1)]) (rest := []) X w (c_PolicyDesk_numberOr l G h (A := A) (n := n) (R := R) (o := (R i16).2.2.1) (by assumption) (fun t ht => Nat.lt_trans ((hcw.2 i16 (by omega)).1 t ht) i16lt)) ok_PolicyDesk_numberOr mT_1087 mT_1086 ⟨by decide, by decide⟩ rfl hl.1 rfl (Nat.le_of_ble_eq_true rfl) d_p1m5_65 ⟨by decide, by decide⟩ (fun r43 h44 H locs hp45 w => ?_)
      refine W.widen (k := 0) (n := 0) (by decide) (by decide) ?_
      obtain ⟨e46, rfl⟩ := hp45
      exact pd_iret (v := r43) X w ⟨by simp only [gr_cls, q14]; rw [if_pos z21]; exact e46, rfl⟩ (by decide) (by decide) d_p1m5_68
    by_cases z47 : wh = nI 1
    · -- case 1: 69
      refine lv_tableIn (tgt := 69) hx hb d_p1m5_17 (by rw [z47]; decide) (by rw [z47]; decide) (by rw [z47]; rfl) (by decide) ?_
      refine lv_aload_n hx hb d_p1m5_69 rfl (lv_at hl 0 rfl) ?_
      obtain ⟨nm48, fx49, f50, f51, f52⟩ := hR.1 i16 (by omega)
      obtain ⟨v53, g54, f55, f56, gf57, gc58, gl59⟩ := id f51
      obtain ⟨v60, cap61, g62, f63, z64, z65, z66, z67, z68⟩ := id f52
      refine pd_get X w f50 rfl 2 (by decide) mT_260 rfl rfl d_p1m5_70 ?_
      refine pd_beq (tgt := 80) hx hb d_p1m5_73 (by decide) (fun q69 => ?_) (fun q69 => ?_)
      · -- taken: 80
        refine lv_iconst (v := nI 0) hx hb d_p1m5_80 (by decide) ?_
        exact pd_iret (v := (nI 0)) X w ⟨by simp only [gr_cls, q14]; rw [if_neg z21, if_pos z47]; rw [q69]; rfl, rfl⟩ (by decide) (by decide) d_p1m5_81
      · -- not taken: 76
        refine lv_iconst (v := nI 1) hx hb d_p1m5_76 (by decide) ?_
        refine lv_goto (tgt := 81) hx hb d_p1m5_77 (by decide) ?_
        exact pd_iret (v := (nI 1)) X w ⟨by simp only [gr_cls, q14]; rw [if_neg z21, if_pos z47]; rw [q69]; rfl, rfl⟩ (by decide) (by decide) d_p1m5_81
    by_cases z70 : wh = nI 2
    · -- case 2: 82
      refine lv_tableIn (tgt := 82) hx hb d_p1m5_17 (by rw [z70]; decide) (by rw [z70]; decide) (by rw [z70]; rfl) (by decide) ?_
      refine lv_aload_n hx hb d_p1m5_82 rfl (lv_at hl 0 rfl) ?_
      obtain ⟨nm71, fx72, f73, f74, f75⟩ := hR.1 i16 (by omega)
      obtain ⟨v76, g77, f78, f79, gf80, gc81, gl82⟩ := id f74
      obtain ⟨v83, cap84, g85, f86, z87, z88, z89, z90, z91⟩ := id f75
      refine pd_get X w f73 rfl 4 (by decide) mT_265 rfl rfl d_p1m5_83 ?_
      rcases pd_oc ((R i16).2.2.2.1) with q92 | ⟨i94, q92⟩
      · -- none
        refine pd_top (v' := .null) (by rw [q92]; rfl) ?_
        have hl : lv_has ls 4 [(3, .ref (A i16)), (0, .ref x), (1, .int c0), (2, .int wh)] := hl
        refine lv_ifnonnullN hx hb d_p1m5_86 ?_
        refine lv_iconst (v := nI 0) hx hb d_p1m5_89 (by decide) ?_
        refine lv_goto (tgt := 94) hx hb d_p1m5_90 (by decide) ?_
        refine lv_aload_n hx hb d_p1m5_94 rfl (lv_at hl 0 rfl) ?_
        refine pd_get X w f73 rfl 5 (by decide) mT_267 rfl rfl d_p1m5_95 ?_
        rcases pd_oc ((R i16).2.2.2.2.1) with q96 | ⟨i98, q96⟩
        · -- none
          refine pd_top (v' := .null) (by rw [q96]; rfl) ?_
          have hl : lv_has ls 4 [(3, .ref (A i16)), (0, .ref x), (1, .int c0), (2, .int wh)] := hl
          refine lv_ifnonnullN hx hb d_p1m5_98 ?_
          refine lv_iconst (v := nI 0) hx hb d_p1m5_101 (by decide) ?_
          refine lv_goto (tgt := 106) hx hb d_p1m5_102 (by decide) ?_
          refine pd_iadd hx hb d_p1m5_106 ?_
          exact pd_iret (v := (nI 0)) X w ⟨by simp only [gr_cls, q14]; rw [if_neg z21, if_neg z47, if_pos z70]; rw [q92, q96]; rfl, rfl⟩ (by decide) (by decide) d_p1m5_107
        · -- some
          refine pd_top (v' := .ref (A i98)) (by rw [q96]; rfl) ?_
          have hl : lv_has ls 4 [(3, .ref (A i16)), (0, .ref x), (1, .int c0), (2, .int wh)] := hl
          have i98lt := (hcw.2 i16 (by omega)).2.2.1 i98 q96
          refine lv_ifnonnull (tgt := 105) hx hb d_p1m5_98 (by decide) ?_
          refine lv_iconst (v := nI 1) hx hb d_p1m5_105 (by decide) ?_
          refine pd_iadd hx hb d_p1m5_106 ?_
          exact pd_iret (v := (nI 1)) X w ⟨by simp only [gr_cls, q14]; rw [if_neg z21, if_neg z47, if_pos z70]; rw [q92, q96]; rfl, rfl⟩ (by decide) (by decide) d_p1m5_107
      · -- some
        refine pd_top (v' := .ref (A i94)) (by rw [q92]; rfl) ?_
        have hl : lv_has ls 4 [(3, .ref (A i16)), (0, .ref x), (1, .int c0), (2, .int wh)] := hl
        have i94lt := (hcw.2 i16 (by omega)).2.1 i94 q92
        refine lv_ifnonnull (tgt := 93) hx hb d_p1m5_86 (by decide) ?_
        refine lv_iconst (v := nI 1) hx hb d_p1m5_93 (by decide) ?_
        refine lv_aload_n hx hb d_p1m5_94 rfl (lv_at hl 0 rfl) ?_
        refine pd_get X w f73 rfl 5 (by decide) mT_267 rfl rfl d_p1m5_95 ?_
        rcases pd_oc ((R i16).2.2.2.2.1) with q102 | ⟨i104, q102⟩
        · -- none
          refine pd_top (v' := .null) (by rw [q102]; rfl) ?_
          have hl : lv_has ls 4 [(3, .ref (A i16)), (0, .ref x), (1, .int c0), (2, .int wh)] := hl
          refine lv_ifnonnullN hx hb d_p1m5_98 ?_
          refine lv_iconst (v := nI 0) hx hb d_p1m5_101 (by decide) ?_
          refine lv_goto (tgt := 106) hx hb d_p1m5_102 (by decide) ?_
          refine pd_iadd hx hb d_p1m5_106 ?_
          exact pd_iret (v := (nI 1)) X w ⟨by simp only [gr_cls, q14]; rw [if_neg z21, if_neg z47, if_pos z70]; rw [q92, q102]; rfl, rfl⟩ (by decide) (by decide) d_p1m5_107
        · -- some
          refine pd_top (v' := .ref (A i104)) (by rw [q102]; rfl) ?_
          have hl : lv_has ls 4 [(3, .ref (A i16)), (0, .ref x), (1, .int c0), (2, .int wh)] := hl
          have i104lt := (hcw.2 i16 (by omega)).2.2.1 i104 q102
          refine lv_ifnonnull (tgt := 105) hx hb d_p1m5_98 (by decide) ?_
          refine lv_iconst (v := nI 1) hx hb d_p1m5_105 (by decide) ?_
          refine pd_iadd hx hb d_p1m5_106 ?_
          exact pd_iret (v := (nI 2)) X w ⟨by simp only [gr_cls, q14]; rw [if_neg z21, if_neg z47, if_pos z70]; rw [q92, q102]; rfl, rfl⟩ (by decide) (by decide) d_p1m5_107
    by_cases z107 : wh = nI 3
    · -- case 3: 108
      refine lv_tableIn (tgt := 108) hx hb d_p1m5_17 (by rw [z107]; decide) (by rw [z107]; decide) (by rw [z107]; rfl) (by decide) ?_
      refine lv_aload_n hx hb d_p1m5_108 rfl (lv_at hl 0 rfl) ?_
      obtain ⟨nm108, fx109, f110, f111, f112⟩ := hR.1 i16 (by omega)
      obtain ⟨v113, g114, f115, f116, gf117, gc118, gl119⟩ := id f111
      obtain ⟨v120, cap121, g122, f123, z124, z125, z126, z127, z128⟩ := id f112
      refine pd_get X w f110 rfl 4 (by decide) mT_265 rfl rfl d_p1m5_109 ?_
      refine lv_bipush (v := -2) hx hb d_p1m5_112 (by decide) ?_
      refine pd_cS (As := [va_rf ((R i16).2.2.2.1.map A), .int (-2)]) (rest := []) X w (c_PolicyDesk_numberOr l G h (A := A) (n := n) (R := R) (o := (R i16).2.2.2.1) (by assumption) (fun t ht => Nat.lt_trans ((hcw.2 i16 (by omega)).2.1 t ht) i16lt)) ok_PolicyDesk_numberOr mT_1087 mT_1086 ⟨by decide, by decide⟩ rfl hl.1 rfl (Nat.le_of_ble_eq_true rfl) d_p1m5_114 ⟨by decide, by decide⟩ (fun r129 h130 H locs hp131 w => ?_)
      refine W.widen (k := 0) (n := 0) (by decide) (by decide) ?_
      obtain ⟨e132, rfl⟩ := hp131
      exact pd_iret (v := r129) X w ⟨by simp only [gr_cls, q14]; rw [if_neg z21, if_neg z47, if_neg z70, if_pos z107]; exact e132, rfl⟩ (by decide) (by decide) d_p1m5_117
    by_cases z133 : wh = nI 4
    · -- case 4: 118
      refine lv_tableIn (tgt := 118) hx hb d_p1m5_17 (by rw [z133]; decide) (by rw [z133]; decide) (by rw [z133]; rfl) (by decide) ?_
      refine lv_aload_n hx hb d_p1m5_118 rfl (lv_at hl 0 rfl) ?_
      obtain ⟨nm134, fx135, f136, f137, f138⟩ := hR.1 i16 (by omega)
      obtain ⟨v139, g140, f141, f142, gf143, gc144, gl145⟩ := id f137
      obtain ⟨v146, cap147, g148, f149, z150, z151, z152, z153, z154⟩ := id f138
      refine pd_get X w f136 rfl 5 (by decide) mT_267 rfl rfl d_p1m5_119 ?_
      refine lv_bipush (v := -2) hx hb d_p1m5_122 (by decide) ?_
      refine pd_cS (As := [va_rf ((R i16).2.2.2.2.1.map A), .int (-2)]) (rest := []) X w (c_PolicyDesk_numberOr l G h (A := A) (n := n) (R := R) (o := (R i16).2.2.2.2.1) (by assumption) (fun t ht => Nat.lt_trans ((hcw.2 i16 (by omega)).2.2.1 t ht) i16lt)) ok_PolicyDesk_numberOr mT_1087 mT_1086 ⟨by decide, by decide⟩ rfl hl.1 rfl (Nat.le_of_ble_eq_true rfl) d_p1m5_124 ⟨by decide, by decide⟩ (fun r155 h156 H locs hp157 w => ?_)
      refine W.widen (k := 0) (n := 0) (by decide) (by decide) ?_
      obtain ⟨e158, rfl⟩ := hp157
      exact pd_iret (v := r155) X w ⟨by simp only [gr_cls, q14]; rw [if_neg z21, if_neg z47, if_neg z70, if_neg z107, if_pos z133]; exact e158, rfl⟩ (by decide) (by decide) d_p1m5_127
    by_cases z159 : wh = nI 5
    · -- case 5: 128
      refine lv_tableIn (tgt := 128) hx hb d_p1m5_17 (by rw [z159]; decide) (by rw [z159]; decide) (by rw [z159]; rfl) (by decide) ?_
      refine lv_aload_n hx hb d_p1m5_128 rfl (lv_at hl 1 rfl) ?_
      refine pd_get X w hx0 rfl 2 (by decide) mT_369 rfl rfl d_p1m5_129 ?_
      refine lv_aload_n hx hb d_p1m5_132 rfl (lv_at hl 0 rfl) ?_
      obtain ⟨ar163, g164, f165, f166, g167, hz168, hz169, z170, f171⟩ := id hM
      refine pd_cV (a := me) (As := [.ref (A i16)]) (rest := []) X w f165 rfl (c_Members_ownedBy l G h (by assumption) (by assumption) (by omega)) ok_Members_ownedBy ⟨mT_1090, mT_1091⟩ mT_1089 ⟨by decide, by decide⟩ rfl hl.1 rfl (Nat.le_of_ble_eq_true rfl) d_p1m5_133 ⟨by decide, by decide⟩ (fun r160 h161 H locs hp162 w => ?_)
      refine W.widen (k := 0) (n := 0) (by decide) (by decide) ?_
      obtain ⟨e172, rfl⟩ := hp162
      exact pd_iret (v := (nI r160)) X w ⟨by simp only [gr_cls, q14]; rw [if_neg z21, if_neg z47, if_neg z70, if_neg z107, if_neg z133, if_pos z159]; exact congrArg nI e172, rfl⟩ (by decide) (by decide) d_p1m5_136
    by_cases z173 : wh = nI 6
    · -- case 6: 137
      refine lv_tableIn (tgt := 137) hx hb d_p1m5_17 (by rw [z173]; decide) (by rw [z173]; decide) (by rw [z173]; rfl) (by decide) ?_
      refine lv_aload_n hx hb d_p1m5_137 rfl (lv_at hl 0 rfl) ?_
      obtain ⟨nm174, fx175, f176, f177, f178⟩ := hR.1 i16 (by omega)
      obtain ⟨v179, g180, f181, f182, gf183, gc184, gl185⟩ := id f177
      obtain ⟨v186, cap187, g188, f189, z190, z191, z192, z193, z194⟩ := id f178
      refine pd_get X w f176 rfl 1 (by decide) mT_258 rfl rfl d_p1m5_138 ?_
      refine pd_cV (a := nm174) (As := []) (rest := []) X w f181 rfl (c_String_length l G h (by assumption)) ok_String_length ⟨mT_93, mT_94⟩ mT_1093 ⟨by decide, by decide⟩ rfl hl.1 rfl (Nat.le_of_ble_eq_true rfl) d_p1m5_141 ⟨by decide, by decide⟩ (fun r195 h196 H locs hp197 w => ?_)
      refine W.widen (k := 0) (n := 0) (by decide) (by decide) ?_
      obtain ⟨e198, rfl⟩ := hp197
      exact pd_iret (v := (nI r195)) X w ⟨by simp only [gr_cls, q14]; rw [if_neg z21, if_neg z47, if_neg z70, if_neg z107, if_neg z133, if_neg z159, if_pos z173]; exact congrArg nI e198, rfl⟩ (by decide) (by decide) d_p1m5_144
    refine lv_tableOut (tgt := 145) hx hb d_p1m5_17 (pd_tout (lo := 0) (hi := 6) (by decide) (by intro j h1 h2; rcases (show j = 0 ∨ j = 1 ∨ j = 2 ∨ j = 3 ∨ j = 4 ∨ j = 5 ∨ j = 6 by omega) with q | q | q | q | q | q | q <;> subst q; exact fun e9 => z21 (e9.trans (by decide)); exact fun e9 => z47 (e9.trans (by decide)); exact fun e9 => z70 (e9.trans (by decide)); exact fun e9 => z107 (e9.trans (by decide)); exact fun e9 => z133 (e9.trans (by decide)); exact fun e9 => z159 (e9.trans (by decide)); exact fun e9 => z173 (e9.trans (by decide)))) (by decide) ?_
    refine lv_bipush (v := -2) hx hb d_p1m5_145 (by decide) ?_
    exact pd_iret (v := (-2)) X w ⟨by simp only [gr_cls, q14]; rw [if_neg z21, if_neg z47, if_neg z70, if_neg z107, if_neg z133, if_neg z159, if_neg z173], rfl⟩ (by decide) (by decide) d_p1m5_147
theorem d_p1m6_0 : decode prog_1_method_6_code 0 = .ok (.aload_n 0, 1) := by decide +kernel
theorem d_p1m6_1 : decode prog_1_method_6_code 1 = .ok (.getfield 26, 3) := by decide +kernel
theorem d_p1m6_4 : decode prog_1_method_6_code 4 = .ok (.iload_n 1, 1) := by decide +kernel
theorem d_p1m6_5 : decode prog_1_method_6_code 5 = .ok (.invokevirtual 152, 3) := by decide +kernel
theorem d_p1m6_8 : decode prog_1_method_6_code 8 = .ok (.astore_n 3, 1) := by decide +kernel
theorem d_p1m6_9 : decode prog_1_method_6_code 9 = .ok (.aload_n 3, 1) := by decide +kernel
theorem d_p1m6_10 : decode prog_1_method_6_code 10 = .ok (.ifnonnull 6, 3) := by decide +kernel
theorem d_p1m6_13 : decode prog_1_method_6_code 13 = .ok (.bipush (-2), 2) := by decide +kernel
theorem d_p1m6_15 : decode prog_1_method_6_code 15 = .ok (.ireturn, 1) := by decide +kernel
theorem d_p1m6_16 : decode prog_1_method_6_code 16 = .ok (.iload_n 2, 1) := by decide +kernel
theorem d_p1m6_17 : decode prog_1_method_6_code 17 = .ok (.tableswitch 65 0 3 #[31, 39, 52, 57], 31) := by decide +kernel
theorem d_p1m6_48 : decode prog_1_method_6_code 48 = .ok (.aload_n 3, 1) := by decide +kernel
theorem d_p1m6_49 : decode prog_1_method_6_code 49 = .ok (.getfield 155, 3) := by decide +kernel
theorem d_p1m6_52 : decode prog_1_method_6_code 52 = .ok (.getfield 160, 3) := by decide +kernel
theorem d_p1m6_55 : decode prog_1_method_6_code 55 = .ok (.ireturn, 1) := by decide +kernel
theorem d_p1m6_56 : decode prog_1_method_6_code 56 = .ok (.aload_n 3, 1) := by decide +kernel
theorem d_p1m6_57 : decode prog_1_method_6_code 57 = .ok (.getfield 163, 3) := by decide +kernel
theorem d_p1m6_60 : decode prog_1_method_6_code 60 = .ok (.ifCond .eq 7, 3) := by decide +kernel
theorem d_p1m6_63 : decode prog_1_method_6_code 63 = .ok (.iconst 1, 1) := by decide +kernel
theorem d_p1m6_64 : decode prog_1_method_6_code 64 = .ok (.goto 4, 3) := by decide +kernel
theorem d_p1m6_67 : decode prog_1_method_6_code 67 = .ok (.iconst 0, 1) := by decide +kernel
theorem d_p1m6_68 : decode prog_1_method_6_code 68 = .ok (.ireturn, 1) := by decide +kernel
theorem d_p1m6_69 : decode prog_1_method_6_code 69 = .ok (.aload_n 3, 1) := by decide +kernel
theorem d_p1m6_70 : decode prog_1_method_6_code 70 = .ok (.getfield 166, 3) := by decide +kernel
theorem d_p1m6_73 : decode prog_1_method_6_code 73 = .ok (.ireturn, 1) := by decide +kernel
theorem d_p1m6_74 : decode prog_1_method_6_code 74 = .ok (.aload_n 3, 1) := by decide +kernel
theorem d_p1m6_75 : decode prog_1_method_6_code 75 = .ok (.getfield 169, 3) := by decide +kernel
theorem d_p1m6_78 : decode prog_1_method_6_code 78 = .ok (.invokevirtual 149, 3) := by decide +kernel
theorem d_p1m6_81 : decode prog_1_method_6_code 81 = .ok (.ireturn, 1) := by decide +kernel
theorem d_p1m6_82 : decode prog_1_method_6_code 82 = .ok (.bipush (-2), 2) := by decide +kernel
theorem d_p1m6_84 : decode prog_1_method_6_code 84 = .ok (.ireturn, 1) := by decide +kernel
abbrev y_PolicyDesk_member : MethodName := ⟨"PolicyDesk", "member", "(II)I"⟩
theorem ok_PolicyDesk_member : pd_ok y_PolicyDesk_member prog_1_method_6_code 4 (some .int) 2 := ⟨mT_1097, mT_1, by decide, by decide +kernel⟩
abbrev rm_PolicyDesk_member : Room := { frames := 2, cells := 0, slots := 0, locals := 40 }
set_option maxHeartbeats 4000000 in
set_option maxRecDepth 100000 in
theorem c_PolicyDesk_member (l : Launch) (G : pd_G) (h : pd_H) {x : Nat} {A B C : Nat → Nat} {t0 : List Nat} {n : Nat} {R : Nat → pd_cr} {k : Nat} {M : Nat → pd_mr} {u : Nat} {U : Nat → pd_rr} {T : Nat → List Nat} {kp nx : Nat} {sp : Int64} {an gn sn dn : Nat} {c0 wh : Int32} (hD : pd_DX G h x A B C t0 n R k M u U T kp nx sp an gn sn dn) : pd_M l y_PolicyDesk_member prog_1_method_6_code 4 (some .int) rm_PolicyDesk_member G h [.ref x, .int c0, .int wh] Value.int (fun r h1 => r = gr_member k M c0 wh ∧ h = h1) := by
  refine pd_M.of (by decide) (Nat.le_of_ble_eq_true rfl) ?_
  intro p e s m below meth c X hmn w ls hl
  have hx := X.1
  have hb := X.2.1
  have hl : lv_has ls 4 [(0, .ref x), (1, .int c0), (2, .int wh)] := hl
  obtain ⟨lb, cl, me, ru, bk, hx0, hz_x, hsb, hC, hM, hU, hA, ht60⟩ := id hD
  have hR := hC.rows
  have hMR := hM.mrows
  have hRR := hU.rrows
  have hcw := hR.2.2
  have hAi := hR.2.1
  have hn14 := hcw.1
  have ht21 : (2 : Nat) ≠ 1 := by decide
  have ht10 : (1 : Nat) ≠ 0 := by decide
  have ht20 : (2 : Nat) ≠ 0 := by decide
  refine lv_aload_n hx hb d_p1m6_0 rfl (lv_at hl 0 rfl) ?_
  refine pd_get X w hx0 rfl 2 (by decide) mT_369 rfl rfl d_p1m6_1 ?_
  refine lv_iload_n hx hb d_p1m6_4 rfl (lv_at hl 1 rfl) ?_
  obtain ⟨ar4, g5, f6, f7, g8, hz9, hz10, z11, f12⟩ := id hM
  refine pd_cV (a := me) (As := [.int c0]) (rest := []) X w f6 rfl (c_Members_at l G h (by assumption) (by assumption)) ok_Members_at ⟨mT_1099, mT_1100⟩ mT_1098 ⟨by decide, by decide⟩ rfl hl.1 rfl (Nat.le_of_ble_eq_true rfl) d_p1m6_5 ⟨by decide, by decide⟩ (fun r1 h2 H locs hp3 w => ?_)
  refine W.widen (k := 0) (n := 0) (by decide) (by decide) ?_
  obtain ⟨e13, rfl⟩ := hp3
  refine pd_ostore_n (lv' := [(3, va_rf r1), (0, .ref x), (1, .int c0), (2, .int wh)]) hx hb d_p1m6_8 rfl hl (by decide) rfl (fun ls hl => ?_)
  refine pd_oload_n hx hb d_p1m6_9 rfl (lv_at hl 0 rfl) ?_
  rcases pd_om e13 with ⟨q14, q17⟩ | ⟨i16, q14, q17⟩
  · -- none
    refine pd_top (v' := .null) (by rw [q17]; rfl) ?_
    rw [q17] at hl
    have hl : lv_has ls 4 [(3, .null), (0, .ref x), (1, .int c0), (2, .int wh)] := hl
    refine lv_ifnonnullN hx hb d_p1m6_10 ?_
    refine lv_bipush (v := -2) hx hb d_p1m6_13 (by decide) ?_
    exact pd_iret (v := (-2)) X w ⟨by simp only [gr_member, q14], rfl⟩ (by decide) (by decide) d_p1m6_15
  · -- some
    refine pd_top (v' := .ref (B i16)) (by rw [q17]; rfl) ?_
    rw [q17] at hl
    have hl : lv_has ls 4 [(3, .ref (B i16)), (0, .ref x), (1, .int c0), (2, .int wh)] := hl
    have i16lt := pd_ixs q14
    refine lv_ifnonnull (tgt := 16) hx hb d_p1m6_10 (by decide) ?_
    refine lv_iload_n hx hb d_p1m6_16 rfl (lv_at hl 3 rfl) ?_
    by_cases z21 : wh = nI 0
    · -- case 0: 48
      refine lv_tableIn (tgt := 48) hx hb d_p1m6_17 (by rw [z21]; decide) (by rw [z21]; decide) (by rw [z21]; rfl) (by decide) ?_
      refine lv_aload_n hx hb d_p1m6_48 rfl (lv_at hl 0 rfl) ?_
      obtain ⟨⟨nm22, sh23, f24, f25, f26⟩, z27, z28⟩ := hMR i16 (by omega)
      obtain ⟨v29, g30, f31, f32, gf33, gc34, gl35⟩ := id f25
      obtain ⟨v36, g37, f38, f39, gf40, gc41, gl42⟩ := id f26
      refine pd_get X w f24 rfl 1 (by decide) mT_815 rfl rfl d_p1m6_49 ?_
      obtain ⟨nm43, fx44, f45, f46, f47⟩ := hR.1 ((M i16).1) (by omega)
      obtain ⟨v48, g49, f50, f51, gf52, gc53, gl54⟩ := id f46
      obtain ⟨v55, cap56, g57, f58, z59, z60, z61, z62, z63⟩ := id f47
      refine pd_get X w f45 rfl 0 (by decide) mT_254 rfl rfl d_p1m6_52 ?_
      exact pd_iret (v := (nI ((M i16).1))) X w ⟨by simp only [gr_member, q14]; rw [if_pos z21], rfl⟩ (by decide) (by decide) d_p1m6_55
    by_cases z64 : wh = nI 1
    · -- case 1: 56
      refine lv_tableIn (tgt := 56) hx hb d_p1m6_17 (by rw [z64]; decide) (by rw [z64]; decide) (by rw [z64]; rfl) (by decide) ?_
      refine lv_aload_n hx hb d_p1m6_56 rfl (lv_at hl 0 rfl) ?_
      obtain ⟨⟨nm65, sh66, f67, f68, f69⟩, z70, z71⟩ := hMR i16 (by omega)
      obtain ⟨v72, g73, f74, f75, gf76, gc77, gl78⟩ := id f68
      obtain ⟨v79, g80, f81, f82, gf83, gc84, gl85⟩ := id f69
      refine pd_get X w f67 rfl 4 (by decide) mT_824 rfl rfl d_p1m6_57 ?_
      refine pd_beq (tgt := 67) hx hb d_p1m6_60 (by decide) (fun q86 => ?_) (fun q86 => ?_)
      · -- taken: 67
        refine lv_iconst (v := nI 0) hx hb d_p1m6_67 (by decide) ?_
        exact pd_iret (v := (nI 0)) X w ⟨by simp only [gr_member, q14]; rw [if_neg z21, if_pos z64]; rw [q86]; rfl, rfl⟩ (by decide) (by decide) d_p1m6_68
      · -- not taken: 63
        refine lv_iconst (v := nI 1) hx hb d_p1m6_63 (by decide) ?_
        refine lv_goto (tgt := 68) hx hb d_p1m6_64 (by decide) ?_
        exact pd_iret (v := (nI 1)) X w ⟨by simp only [gr_member, q14]; rw [if_neg z21, if_pos z64]; rw [q86]; rfl, rfl⟩ (by decide) (by decide) d_p1m6_68
    by_cases z87 : wh = nI 2
    · -- case 2: 69
      refine lv_tableIn (tgt := 69) hx hb d_p1m6_17 (by rw [z87]; decide) (by rw [z87]; decide) (by rw [z87]; rfl) (by decide) ?_
      refine lv_aload_n hx hb d_p1m6_69 rfl (lv_at hl 0 rfl) ?_
      obtain ⟨⟨nm88, sh89, f90, f91, f92⟩, z93, z94⟩ := hMR i16 (by omega)
      obtain ⟨v95, g96, f97, f98, gf99, gc100, gl101⟩ := id f91
      obtain ⟨v102, g103, f104, f105, gf106, gc107, gl108⟩ := id f92
      refine pd_get X w f90 rfl 5 (by decide) mT_826 rfl rfl d_p1m6_70 ?_
      exact pd_iret (v := (nI ((M i16).2.2.2))) X w ⟨by simp only [gr_member, q14]; rw [if_neg z21, if_neg z64, if_pos z87], rfl⟩ (by decide) (by decide) d_p1m6_73
    by_cases z109 : wh = nI 3
    · -- case 3: 74
      refine lv_tableIn (tgt := 74) hx hb d_p1m6_17 (by rw [z109]; decide) (by rw [z109]; decide) (by rw [z109]; rfl) (by decide) ?_
      refine lv_aload_n hx hb d_p1m6_74 rfl (lv_at hl 0 rfl) ?_
      obtain ⟨⟨nm110, sh111, f112, f113, f114⟩, z115, z116⟩ := hMR i16 (by omega)
      obtain ⟨v117, g118, f119, f120, gf121, gc122, gl123⟩ := id f113
      obtain ⟨v124, g125, f126, f127, gf128, gc129, gl130⟩ := id f114
      refine pd_get X w f112 rfl 2 (by decide) mT_819 rfl rfl d_p1m6_75 ?_
      refine pd_cV (a := nm110) (As := []) (rest := []) X w f119 rfl (c_String_length l G h (by assumption)) ok_String_length ⟨mT_93, mT_94⟩ mT_1093 ⟨by decide, by decide⟩ rfl hl.1 rfl (Nat.le_of_ble_eq_true rfl) d_p1m6_78 ⟨by decide, by decide⟩ (fun r131 h132 H locs hp133 w => ?_)
      refine W.widen (k := 0) (n := 0) (by decide) (by decide) ?_
      obtain ⟨e134, rfl⟩ := hp133
      exact pd_iret (v := (nI r131)) X w ⟨by simp only [gr_member, q14]; rw [if_neg z21, if_neg z64, if_neg z87, if_pos z109]; exact congrArg nI e134, rfl⟩ (by decide) (by decide) d_p1m6_81
    refine lv_tableOut (tgt := 82) hx hb d_p1m6_17 (pd_tout (lo := 0) (hi := 3) (by decide) (by intro j h1 h2; rcases (show j = 0 ∨ j = 1 ∨ j = 2 ∨ j = 3 by omega) with q | q | q | q <;> subst q; exact fun e9 => z21 (e9.trans (by decide)); exact fun e9 => z64 (e9.trans (by decide)); exact fun e9 => z87 (e9.trans (by decide)); exact fun e9 => z109 (e9.trans (by decide)))) (by decide) ?_
    refine lv_bipush (v := -2) hx hb d_p1m6_82 (by decide) ?_
    exact pd_iret (v := (-2)) X w ⟨by simp only [gr_member, q14]; rw [if_neg z21, if_neg z64, if_neg z87, if_neg z109], rfl⟩ (by decide) (by decide) d_p1m6_84
theorem d_p1m8_0 : decode prog_1_method_8_code 0 = .ok (.aload_n 0, 1) := by decide +kernel
theorem d_p1m8_1 : decode prog_1_method_8_code 1 = .ok (.getfield 19, 3) := by decide +kernel
theorem d_p1m8_4 : decode prog_1_method_8_code 4 = .ok (.iload_n 1, 1) := by decide +kernel
theorem d_p1m8_5 : decode prog_1_method_8_code 5 = .ok (.invokevirtual 117, 3) := by decide +kernel
theorem d_p1m8_8 : decode prog_1_method_8_code 8 = .ok (.astore_n 3, 1) := by decide +kernel
theorem d_p1m8_9 : decode prog_1_method_8_code 9 = .ok (.aload_n 0, 1) := by decide +kernel
theorem d_p1m8_10 : decode prog_1_method_8_code 10 = .ok (.getfield 19, 3) := by decide +kernel
theorem d_p1m8_13 : decode prog_1_method_8_code 13 = .ok (.iload_n 2, 1) := by decide +kernel
theorem d_p1m8_14 : decode prog_1_method_8_code 14 = .ok (.invokevirtual 117, 3) := by decide +kernel
theorem d_p1m8_17 : decode prog_1_method_8_code 17 = .ok (.astore 4, 2) := by decide +kernel
theorem d_p1m8_19 : decode prog_1_method_8_code 19 = .ok (.aload_n 3, 1) := by decide +kernel
theorem d_p1m8_20 : decode prog_1_method_8_code 20 = .ok (.ifnull 8, 3) := by decide +kernel
theorem d_p1m8_23 : decode prog_1_method_8_code 23 = .ok (.aload 4, 2) := by decide +kernel
theorem d_p1m8_25 : decode prog_1_method_8_code 25 = .ok (.ifnonnull 6, 3) := by decide +kernel
theorem d_p1m8_28 : decode prog_1_method_8_code 28 = .ok (.bipush (-2), 2) := by decide +kernel
theorem d_p1m8_30 : decode prog_1_method_8_code 30 = .ok (.ireturn, 1) := by decide +kernel
theorem d_p1m8_31 : decode prog_1_method_8_code 31 = .ok (.aload_n 3, 1) := by decide +kernel
theorem d_p1m8_32 : decode prog_1_method_8_code 32 = .ok (.aload 4, 2) := by decide +kernel
theorem d_p1m8_34 : decode prog_1_method_8_code 34 = .ok (.invokevirtual 174, 3) := by decide +kernel
theorem d_p1m8_37 : decode prog_1_method_8_code 37 = .ok (.ifCond .eq 7, 3) := by decide +kernel
theorem d_p1m8_40 : decode prog_1_method_8_code 40 = .ok (.iconst 1, 1) := by decide +kernel
theorem d_p1m8_41 : decode prog_1_method_8_code 41 = .ok (.goto 4, 3) := by decide +kernel
theorem d_p1m8_44 : decode prog_1_method_8_code 44 = .ok (.iconst 0, 1) := by decide +kernel
theorem d_p1m8_45 : decode prog_1_method_8_code 45 = .ok (.ireturn, 1) := by decide +kernel
abbrev y_PolicyDesk_below : MethodName := ⟨"PolicyDesk", "below", "(II)I"⟩
theorem ok_PolicyDesk_below : pd_ok y_PolicyDesk_below prog_1_method_8_code 5 (some .int) 2 := ⟨mT_1116, mT_1, by decide, by decide +kernel⟩
abbrev rm_PolicyDesk_below : Room := { frames := 1, cells := 0, slots := 0, locals := 21 }
set_option maxHeartbeats 4000000 in
set_option maxRecDepth 100000 in
theorem c_PolicyDesk_below (l : Launch) (G : pd_G) (h : pd_H) {x : Nat} {A B C : Nat → Nat} {t0 : List Nat} {n : Nat} {R : Nat → pd_cr} {k : Nat} {M : Nat → pd_mr} {u : Nat} {U : Nat → pd_rr} {T : Nat → List Nat} {kp nx : Nat} {sp : Int64} {an gn sn dn : Nat} {c0 d0 : Int32} (hD : pd_DX G h x A B C t0 n R k M u U T kp nx sp an gn sn dn) : pd_M l y_PolicyDesk_below prog_1_method_8_code 5 (some .int) rm_PolicyDesk_below G h [.ref x, .int c0, .int d0] Value.int (fun r h1 => r = gr_below n R c0 d0 ∧ h = h1) := by
  refine pd_M.of (by decide) (Nat.le_of_ble_eq_true rfl) ?_
  intro p e s m below meth c X hmn w ls hl
  have hx := X.1
  have hb := X.2.1
  have hl : lv_has ls 5 [(0, .ref x), (1, .int c0), (2, .int d0)] := hl
  obtain ⟨lb, cl, me, ru, bk, hx0, hz_x, hsb, hC, hM, hU, hA, ht60⟩ := id hD
  have hR := hC.rows
  have hMR := hM.mrows
  have hRR := hU.rrows
  have hcw := hR.2.2
  have hAi := hR.2.1
  have hn14 := hcw.1
  have ht21 : (2 : Nat) ≠ 1 := by decide
  have ht10 : (1 : Nat) ≠ 0 := by decide
  have ht20 : (2 : Nat) ≠ 0 := by decide
  refine lv_aload_n hx hb d_p1m8_0 rfl (lv_at hl 0 rfl) ?_
  refine pd_get X w hx0 rfl 1 (by decide) mT_368 rfl rfl d_p1m8_1 ?_
  refine lv_iload_n hx hb d_p1m8_4 rfl (lv_at hl 1 rfl) ?_
  obtain ⟨ar4, g5, f6, f7, g8, hz9, hz10, z11, f12⟩ := id hC
  refine pd_cV (a := cl) (As := [.int c0]) (rest := []) X w f6 rfl (c_Classes_at l G h (by assumption)) ok_Classes_at ⟨mT_1083, mT_1084⟩ mT_1082 ⟨by decide, by decide⟩ rfl hl.1 rfl (Nat.le_of_ble_eq_true rfl) d_p1m8_5 ⟨by decide, by decide⟩ (fun r1 h2 H locs hp3 w => ?_)
  refine W.widen (k := 0) (n := 0) (by decide) (by decide) ?_
  obtain ⟨e13, rfl⟩ := hp3
  refine pd_ostore_n (lv' := [(3, va_rf r1), (0, .ref x), (1, .int c0), (2, .int d0)]) hx hb d_p1m8_8 rfl hl (by decide) rfl (fun ls hl => ?_)
  refine lv_aload_n hx hb d_p1m8_9 rfl (lv_at hl 1 rfl) ?_
  refine pd_get X w hx0 rfl 1 (by decide) mT_368 rfl rfl d_p1m8_10 ?_
  refine lv_iload_n hx hb d_p1m8_13 rfl (lv_at hl 3 rfl) ?_
  refine pd_cV (a := cl) (As := [.int d0]) (rest := []) X w f6 rfl (c_Classes_at l G h (by assumption)) ok_Classes_at ⟨mT_1083, mT_1084⟩ mT_1082 ⟨by decide, by decide⟩ rfl hl.1 rfl (Nat.le_of_ble_eq_true rfl) d_p1m8_14 ⟨by decide, by decide⟩ (fun r14 h15 H locs hp16 w => ?_)
  refine W.widen (k := 0) (n := 0) (by decide) (by decide) ?_
  obtain ⟨e17, rfl⟩ := hp16
  refine pd_ostore (lv' := [(4, va_rf r14), (3, va_rf r1), (0, .ref x), (1, .int c0), (2, .int d0)]) hx hb d_p1m8_17 hl (by decide) (by simp [pd_cat]) (fun ls hl => ?_)
  refine pd_oload_n hx hb d_p1m8_19 rfl (lv_at hl 1 rfl) ?_
  rcases pd_om e13 with ⟨q18, q21⟩ | ⟨i20, q18, q21⟩
  · -- none
    refine pd_top (v' := .null) (by rw [q21]; rfl) ?_
    rw [q21] at hl
    have hl : lv_has ls 5 [(4, va_rf r14), (3, .null), (0, .ref x), (1, .int c0), (2, .int d0)] := hl
    refine lv_ifnullN (tgt := 28) hx hb d_p1m8_20 (by decide) ?_
    refine lv_bipush (v := -2) hx hb d_p1m8_28 (by decide) ?_
    exact pd_iret (v := (-2)) X w ⟨by simp only [gr_below, q18], rfl⟩ (by decide) (by decide) d_p1m8_30
  · -- some
    refine pd_top (v' := .ref (A i20)) (by rw [q21]; rfl) ?_
    rw [q21] at hl
    have hl : lv_has ls 5 [(4, va_rf r14), (3, .ref (A i20)), (0, .ref x), (1, .int c0), (2, .int d0)] := hl
    have i20lt := pd_ixs q18
    refine lv_ifnull hx hb d_p1m8_20 ?_
    refine pd_oload hx hb d_p1m8_23 (lv_at hl 0 rfl) ?_
    rcases pd_om e17 with ⟨q24, q27⟩ | ⟨i26, q24, q27⟩
    · -- none
      refine pd_top (v' := .null) (by rw [q27]; rfl) ?_
      rw [q27] at hl
      have hl : lv_has ls 5 [(4, .null), (3, .ref (A i20)), (0, .ref x), (1, .int c0), (2, .int d0)] := hl
      refine lv_ifnonnullN hx hb d_p1m8_25 ?_
      refine lv_bipush (v := -2) hx hb d_p1m8_28 (by decide) ?_
      exact pd_iret (v := (-2)) X w ⟨by simp only [gr_below, q18, q24], rfl⟩ (by decide) (by decide) d_p1m8_30
    · -- some
      refine pd_top (v' := .ref (A i26)) (by rw [q27]; rfl) ?_
      rw [q27] at hl
      have hl : lv_has ls 5 [(4, .ref (A i26)), (3, .ref (A i20)), (0, .ref x), (1, .int c0), (2, .int d0)] := hl
      have i26lt := pd_ixs q24
      refine lv_ifnonnull (tgt := 31) hx hb d_p1m8_25 (by decide) ?_
      refine lv_aload_n hx hb d_p1m8_31 rfl (lv_at hl 1 rfl) ?_
      refine lv_aload hx hb d_p1m8_32 (lv_at hl 0 rfl) ?_
      obtain ⟨nm33, fx34, f35, f36, f37⟩ := hR.1 i20 (by omega)
      obtain ⟨v38, g39, f40, f41, gf42, gc43, gl44⟩ := id f36
      obtain ⟨v45, cap46, g47, f48, z49, z50, z51, z52, z53⟩ := id f37
      refine pd_cV (a := (A i20)) (As := [.ref (A i26)]) (rest := []) X w f35 rfl (c_ClassRow_isBelow l G h (by assumption) (by omega) (by omega)) ok_ClassRow_isBelow ⟨mT_989, mT_990⟩ mT_1117 ⟨by decide, by decide⟩ rfl hl.1 rfl (Nat.le_of_ble_eq_true rfl) d_p1m8_34 ⟨by decide, by decide⟩ (fun r30 h31 H locs hp32 w => ?_)
      refine W.widen (k := 0) (n := 0) (by decide) (by decide) ?_
      obtain ⟨e54, rfl⟩ := hp32
      refine pd_beq (tgt := 44) hx hb d_p1m8_37 (by decide) (fun q55 => ?_) (fun q55 => ?_)
      · -- taken: 44
        refine lv_iconst (v := nI 0) hx hb d_p1m8_44 (by decide) ?_
        exact pd_iret (v := (nI 0)) X w ⟨by simp only [gr_below, q18, q24]; rw [← e54, q55]; rfl, rfl⟩ (by decide) (by decide) d_p1m8_45
      · -- not taken: 40
        refine lv_iconst (v := nI 1) hx hb d_p1m8_40 (by decide) ?_
        refine lv_goto (tgt := 45) hx hb d_p1m8_41 (by decide) ?_
        exact pd_iret (v := (nI 1)) X w ⟨by simp only [gr_below, q18, q24]; rw [← e54, q55]; rfl, rfl⟩ (by decide) (by decide) d_p1m8_45
theorem d_p1m10_0 : decode prog_1_method_10_code 0 = .ok (.iload_n 1, 1) := by decide +kernel
theorem d_p1m10_1 : decode prog_1_method_10_code 1 = .ok (.tableswitch 99 0 7 #[47, 55, 63, 71, 76, 81, 86, 94], 47) := by decide +kernel
theorem d_p1m10_48 : decode prog_1_method_10_code 48 = .ok (.aload_n 0, 1) := by decide +kernel
theorem d_p1m10_49 : decode prog_1_method_10_code 49 = .ok (.getfield 19, 3) := by decide +kernel
theorem d_p1m10_52 : decode prog_1_method_10_code 52 = .ok (.getfield 182, 3) := by decide +kernel
theorem d_p1m10_55 : decode prog_1_method_10_code 55 = .ok (.ireturn, 1) := by decide +kernel
theorem d_p1m10_56 : decode prog_1_method_10_code 56 = .ok (.aload_n 0, 1) := by decide +kernel
theorem d_p1m10_57 : decode prog_1_method_10_code 57 = .ok (.getfield 26, 3) := by decide +kernel
theorem d_p1m10_60 : decode prog_1_method_10_code 60 = .ok (.getfield 185, 3) := by decide +kernel
theorem d_p1m10_63 : decode prog_1_method_10_code 63 = .ok (.ireturn, 1) := by decide +kernel
theorem d_p1m10_64 : decode prog_1_method_10_code 64 = .ok (.aload_n 0, 1) := by decide +kernel
theorem d_p1m10_65 : decode prog_1_method_10_code 65 = .ok (.getfield 33, 3) := by decide +kernel
theorem d_p1m10_68 : decode prog_1_method_10_code 68 = .ok (.getfield 186, 3) := by decide +kernel
theorem d_p1m10_71 : decode prog_1_method_10_code 71 = .ok (.ireturn, 1) := by decide +kernel
theorem d_p1m10_72 : decode prog_1_method_10_code 72 = .ok (.aload_n 0, 1) := by decide +kernel
theorem d_p1m10_73 : decode prog_1_method_10_code 73 = .ok (.getfield 187, 3) := by decide +kernel
theorem d_p1m10_76 : decode prog_1_method_10_code 76 = .ok (.ireturn, 1) := by decide +kernel
theorem d_p1m10_77 : decode prog_1_method_10_code 77 = .ok (.aload_n 0, 1) := by decide +kernel
theorem d_p1m10_78 : decode prog_1_method_10_code 78 = .ok (.getfield 190, 3) := by decide +kernel
theorem d_p1m10_81 : decode prog_1_method_10_code 81 = .ok (.ireturn, 1) := by decide +kernel
theorem d_p1m10_82 : decode prog_1_method_10_code 82 = .ok (.aload_n 0, 1) := by decide +kernel
theorem d_p1m10_83 : decode prog_1_method_10_code 83 = .ok (.getfield 89, 3) := by decide +kernel
theorem d_p1m10_86 : decode prog_1_method_10_code 86 = .ok (.ireturn, 1) := by decide +kernel
theorem d_p1m10_87 : decode prog_1_method_10_code 87 = .ok (.aload_n 0, 1) := by decide +kernel
theorem d_p1m10_88 : decode prog_1_method_10_code 88 = .ok (.getfield 10, 3) := by decide +kernel
theorem d_p1m10_91 : decode prog_1_method_10_code 91 = .ok (.invokevirtual 48, 3) := by decide +kernel
theorem d_p1m10_94 : decode prog_1_method_10_code 94 = .ok (.ireturn, 1) := by decide +kernel
theorem d_p1m10_95 : decode prog_1_method_10_code 95 = .ok (.aload_n 0, 1) := by decide +kernel
theorem d_p1m10_96 : decode prog_1_method_10_code 96 = .ok (.getfield 193, 3) := by decide +kernel
theorem d_p1m10_99 : decode prog_1_method_10_code 99 = .ok (.ireturn, 1) := by decide +kernel
theorem d_p1m10_100 : decode prog_1_method_10_code 100 = .ok (.iconst (-1), 1) := by decide +kernel
theorem d_p1m10_101 : decode prog_1_method_10_code 101 = .ok (.ireturn, 1) := by decide +kernel
abbrev y_PolicyDesk_count : MethodName := ⟨"PolicyDesk", "count", "(I)I"⟩
theorem ok_PolicyDesk_count : pd_ok y_PolicyDesk_count prog_1_method_10_code 2 (some .int) 1 := ⟨mT_1125, mT_1, by decide, by decide +kernel⟩
abbrev rm_PolicyDesk_count : Room := { frames := 2, cells := 0, slots := 0, locals := 40 }
set_option maxHeartbeats 4000000 in
set_option maxRecDepth 100000 in
theorem c_PolicyDesk_count (l : Launch) (G : pd_G) (h : pd_H) {x : Nat} {A B C : Nat → Nat} {t0 : List Nat} {n : Nat} {R : Nat → pd_cr} {k : Nat} {M : Nat → pd_mr} {u : Nat} {U : Nat → pd_rr} {T : Nat → List Nat} {kp nx : Nat} {sp : Int64} {an gn sn dn : Nat} {wh : Int32} (hD : pd_DX G h x A B C t0 n R k M u U T kp nx sp an gn sn dn) : pd_M l y_PolicyDesk_count prog_1_method_10_code 2 (some .int) rm_PolicyDesk_count G h [.ref x, .int wh] Value.int (fun r h1 => r = gr_count n k u an gn sn t0.length dn wh ∧ h = h1) := by
  refine pd_M.of (by decide) (Nat.le_of_ble_eq_true rfl) ?_
  intro p e s m below meth c X hmn w ls hl
  have hx := X.1
  have hb := X.2.1
  have hl : lv_has ls 2 [(0, .ref x), (1, .int wh)] := hl
  obtain ⟨lb, cl, me, ru, bk, hx0, hz_x, hsb, hC, hM, hU, hA, ht60⟩ := id hD
  have hR := hC.rows
  have hMR := hM.mrows
  have hRR := hU.rrows
  have hcw := hR.2.2
  have hAi := hR.2.1
  have hn14 := hcw.1
  have ht21 : (2 : Nat) ≠ 1 := by decide
  have ht10 : (1 : Nat) ≠ 0 := by decide
  have ht20 : (2 : Nat) ≠ 0 := by decide
  refine lv_iload_n hx hb d_p1m10_0 rfl (lv_at hl 1 rfl) ?_
  by_cases z2 : wh = nI 0
  · -- case 0: 48
    refine lv_tableIn (tgt := 48) hx hb d_p1m10_1 (by rw [z2]; decide) (by rw [z2]; decide) (by rw [z2]; rfl) (by decide) ?_
    refine lv_aload_n hx hb d_p1m10_48 rfl (lv_at hl 0 rfl) ?_
    refine pd_get X w hx0 rfl 1 (by decide) mT_368 rfl rfl d_p1m10_49 ?_
    obtain ⟨ar3, g4, f5, f6, g7, hz8, hz9, z10, f11⟩ := id hC
    refine pd_get X w f5 rfl 3 (by decide) mT_299 rfl rfl d_p1m10_52 ?_
    exact pd_iret (v := (nI n)) X w ⟨by unfold gr_count; rw [if_pos z2], rfl⟩ (by decide) (by decide) d_p1m10_55
  by_cases z12 : wh = nI 1
  · -- case 1: 56
    refine lv_tableIn (tgt := 56) hx hb d_p1m10_1 (by rw [z12]; decide) (by rw [z12]; decide) (by rw [z12]; rfl) (by decide) ?_
    refine lv_aload_n hx hb d_p1m10_56 rfl (lv_at hl 0 rfl) ?_
    refine pd_get X w hx0 rfl 2 (by decide) mT_369 rfl rfl d_p1m10_57 ?_
    obtain ⟨ar13, g14, f15, f16, g17, hz18, hz19, z20, f21⟩ := id hM
    refine pd_get X w f15 rfl 1 (by decide) mT_319 rfl rfl d_p1m10_60 ?_
    exact pd_iret (v := (nI k)) X w ⟨by unfold gr_count; rw [if_neg z2, if_pos z12], rfl⟩ (by decide) (by decide) d_p1m10_63
  by_cases z22 : wh = nI 2
  · -- case 2: 64
    refine lv_tableIn (tgt := 64) hx hb d_p1m10_1 (by rw [z22]; decide) (by rw [z22]; decide) (by rw [z22]; rfl) (by decide) ?_
    refine lv_aload_n hx hb d_p1m10_64 rfl (lv_at hl 0 rfl) ?_
    refine pd_get X w hx0 rfl 3 (by decide) mT_370 rfl rfl d_p1m10_65 ?_
    obtain ⟨ar23, g24, f25, f26, g27, hz28, hz29, z30, f31⟩ := id hU
    refine pd_get X w f25 rfl 1 (by decide) mT_335 rfl rfl d_p1m10_68 ?_
    exact pd_iret (v := (nI u)) X w ⟨by unfold gr_count; rw [if_neg z2, if_neg z12, if_pos z22], rfl⟩ (by decide) (by decide) d_p1m10_71
  by_cases z32 : wh = nI 3
  · -- case 3: 72
    refine lv_tableIn (tgt := 72) hx hb d_p1m10_1 (by rw [z32]; decide) (by rw [z32]; decide) (by rw [z32]; rfl) (by decide) ?_
    refine lv_aload_n hx hb d_p1m10_72 rfl (lv_at hl 0 rfl) ?_
    refine pd_get X w hx0 rfl 6 (by decide) mT_373 rfl rfl d_p1m10_73 ?_
    exact pd_iret (v := (nI an)) X w ⟨by unfold gr_count; rw [if_neg z2, if_neg z12, if_neg z22, if_pos z32], rfl⟩ (by decide) (by decide) d_p1m10_76
  by_cases z33 : wh = nI 4
  · -- case 4: 77
    refine lv_tableIn (tgt := 77) hx hb d_p1m10_1 (by rw [z33]; decide) (by rw [z33]; decide) (by rw [z33]; rfl) (by decide) ?_
    refine lv_aload_n hx hb d_p1m10_77 rfl (lv_at hl 0 rfl) ?_
    refine pd_get X w hx0 rfl 7 (by decide) mT_374 rfl rfl d_p1m10_78 ?_
    exact pd_iret (v := (nI gn)) X w ⟨by unfold gr_count; rw [if_neg z2, if_neg z12, if_neg z22, if_neg z32, if_pos z33], rfl⟩ (by decide) (by decide) d_p1m10_81
  by_cases z34 : wh = nI 5
  · -- case 5: 82
    refine lv_tableIn (tgt := 82) hx hb d_p1m10_1 (by rw [z34]; decide) (by rw [z34]; decide) (by rw [z34]; rfl) (by decide) ?_
    refine lv_aload_n hx hb d_p1m10_82 rfl (lv_at hl 0 rfl) ?_
    refine pd_get X w hx0 rfl 8 (by decide) mT_375 rfl rfl d_p1m10_83 ?_
    exact pd_iret (v := (nI sn)) X w ⟨by unfold gr_count; rw [if_neg z2, if_neg z12, if_neg z22, if_neg z32, if_neg z33, if_pos z34], rfl⟩ (by decide) (by decide) d_p1m10_86
  by_cases z35 : wh = nI 6
  · -- case 6: 87
    refine lv_tableIn (tgt := 87) hx hb d_p1m10_1 (by rw [z35]; decide) (by rw [z35]; decide) (by rw [z35]; rfl) (by decide) ?_
    refine lv_aload_n hx hb d_p1m10_87 rfl (lv_at hl 0 rfl) ?_
    refine pd_get X w hx0 rfl 0 (by decide) mT_367 rfl rfl d_p1m10_88 ?_
    obtain ⟨v39, cap40, g41, ml42, f43, f44, gf45, gc46, gn47, gp48, ft49, hz50, hz51⟩ := id hsb
    refine pd_cV (a := lb) (As := []) (rest := []) X w f43 rfl (c_StringBuilder_length l G h (by assumption) (by assumption) (by assumption) (by assumption) (by assumption) (by assumption) (by assumption) (by assumption)) ok_StringBuilder_length ⟨mT_409, mT_410⟩ mT_408 ⟨by decide, by decide⟩ rfl hl.1 rfl (Nat.le_of_ble_eq_true rfl) d_p1m10_91 ⟨by decide, by decide⟩ (fun r36 h37 H locs hp38 w => ?_)
    refine W.widen (k := 0) (n := 0) (by decide) (by decide) ?_
    obtain ⟨e52, rfl⟩ := hp38
    exact pd_iret (v := (nI r36)) X w ⟨by unfold gr_count; rw [if_neg z2, if_neg z12, if_neg z22, if_neg z32, if_neg z33, if_neg z34, if_pos z35, e52], rfl⟩ (by decide) (by decide) d_p1m10_94
  by_cases z53 : wh = nI 7
  · -- case 7: 95
    refine lv_tableIn (tgt := 95) hx hb d_p1m10_1 (by rw [z53]; decide) (by rw [z53]; decide) (by rw [z53]; rfl) (by decide) ?_
    refine lv_aload_n hx hb d_p1m10_95 rfl (lv_at hl 0 rfl) ?_
    refine pd_get X w hx0 rfl 9 (by decide) mT_376 rfl rfl d_p1m10_96 ?_
    exact pd_iret (v := (nI dn)) X w ⟨by unfold gr_count; rw [if_neg z2, if_neg z12, if_neg z22, if_neg z32, if_neg z33, if_neg z34, if_neg z35, if_pos z53], rfl⟩ (by decide) (by decide) d_p1m10_99
  refine lv_tableOut (tgt := 100) hx hb d_p1m10_1 (pd_tout (lo := 0) (hi := 7) (by decide) (by intro j h1 h2; rcases (show j = 0 ∨ j = 1 ∨ j = 2 ∨ j = 3 ∨ j = 4 ∨ j = 5 ∨ j = 6 ∨ j = 7 by omega) with q | q | q | q | q | q | q | q <;> subst q; exact fun e9 => z2 (e9.trans (by decide)); exact fun e9 => z12 (e9.trans (by decide)); exact fun e9 => z22 (e9.trans (by decide)); exact fun e9 => z32 (e9.trans (by decide)); exact fun e9 => z33 (e9.trans (by decide)); exact fun e9 => z34 (e9.trans (by decide)); exact fun e9 => z35 (e9.trans (by decide)); exact fun e9 => z53 (e9.trans (by decide)))) (by decide) ?_
  refine lv_iconst (v := -1) hx hb d_p1m10_100 (by decide) ?_
  exact pd_iret (v := (-1)) X w ⟨by unfold gr_count; rw [if_neg z2, if_neg z12, if_neg z22, if_neg z32, if_neg z33, if_neg z34, if_neg z35, if_neg z53], rfl⟩ (by decide) (by decide) d_p1m10_101
