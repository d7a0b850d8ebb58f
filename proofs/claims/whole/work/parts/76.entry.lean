/-! THE ENTRY: what the Statement gives of a start, as the layer takes it -/
def pj_FL : List Cond := flatC (Jvm.Cond.and given_1 narrow_1)
theorem pj_FL_at {args : Array Value} {s : State} (h : (Jvm.Cond.and given_1 narrow_1).before args s = true) {w : Cond} (i : Nat) (q : pj_FL[i]? = some w) : w.before args s = true := flat_of_before _ h w (List.mem_of_getElem? q)
theorem pj_tb {args : Array Value} {s : State} (h : ∀ w ∈ lw_tbl, w.before args s = true) {w : Cond} (i : Nat) (q : tables_1[i]? = some w) : w.before args s = true := h w (show w ∈ lw_tbl from List.mem_append_right _ (List.mem_of_getElem? q))
def pj_sb : List Nat := [386, 396, 406, 410, 415, 421, 426, 433, 445, 450, 455, 461, 467, 472, 478, 485, 491, 499, 511, 518, 524, 535, 543, 556, 566, 575, 582, 590, 598, 605, 613, 622, 630, 637, 646, 655, 668, 677, 687]
def pj_sr : List Nat := [81, 292, 577, 592, 601, 643, 700, 726, 733, 734, 735, 736, 746, 750, 752, 756, 760, 795, 797, 879, 1056, 1057, 1058, 1059, 1060, 1061, 1517, 1518, 1519, 1520, 1521, 1522, 1523, 1524, 1525, 1526, 1527, 1528, 1529]
def pj_so (j : Nat) : String := (pd_Ls.getD j ("", 0, "", 0)).1
def pj_si (j : Nat) : Nat := (pd_Ls.getD j ("", 0, "", 0)).2.1
def pj_stm (j : Nat) : Term := .string (pj_so j) (pj_si j)
def pj_sv (j : Nat) : Term := .field (pj_stm j) "java/lang/String" "value" "[B"
theorem pj_FLs : ∀ j, j < 39 → (pj_FL[pj_sb.getD j 0]? = some (.exactly (pj_stm j) "java/lang/String") ∧ pj_FL[pj_sb.getD j 0 + 1]? = some (.eq (.field (pj_stm j) "java/lang/String" "coder" "B") (.int 0)) ∧ pj_FL[pj_sb.getD j 0 + 2]? = some (.arrayOf (pj_sv j) .byte)) := by decide +kernel
theorem pj_FLs2 : ∀ j, j < 39 → (pj_FL[pj_sb.getD j 0 + 3]? = some (.eq (.length (pj_sv j)) (.int (Int32.ofNat (pd_lit j).length))) ∧ (pd_lit j).length < 2 ^ 31 ∧ tables_1[pj_sr.getD j 0]? = some (.stringRef (pj_so j) (pj_si j) (pd_Ls.getD j ("", 0, "", 0)).2.2.1) ∧ (pd_Ls.getD j ("", 0, "", 0)).2.2.2 = 40 + j ∧ (∀ x ∈ pd_lit j, x < 256) ∧ (pd_lit j).length ≤ 60) := by decide +kernel
theorem pj_FLs3 : ∀ j, j < 39 → ∀ t, t < (pd_lit j).length → pj_FL[pj_sb.getD j 0 + 4 + t]? = some (.eq (.elem (pj_sv j) (.int (Int32.ofNat t))) (.int (sb_b ((pd_lit j).getD t 0)))) := by decide +kernel
def pj_vb : List Nat := [305, 316, 328, 341, 65, 72, 50, 47, 80, 355, 89, 54, 59]
def pj_vl : List Nat := [1512, 1513, 1514, 1515, 965, 967, 859, 845, 981, 1516, 983, 925, 927]
def pj_vn : List (List Nat) := [[0, 327, 339, 352, 312, 313, 309, 308, 314, 366, 315, 310, 311], [327, 0, 340, 353, 323, 324, 320, 319, 325, 367, 326, 321, 322], [339, 340, 0, 354, 335, 336, 332, 331, 337, 368, 338, 333, 334], [352, 353, 354, 0, 348, 349, 345, 344, 350, 369, 351, 346, 347], [312, 323, 335, 348, 0, 79, 69, 68, 87, 362, 96, 70, 71], [313, 324, 336, 349, 79, 0, 76, 75, 88, 363, 97, 77, 78], [309, 320, 332, 345, 69, 76, 0, 53, 84, 359, 93, 58, 63], [308, 319, 331, 344, 68, 75, 53, 0, 83, 358, 92, 57, 62], [314, 325, 337, 350, 87, 88, 84, 83, 0, 364, 98, 85, 86], [366, 367, 368, 369, 362, 363, 359, 358, 364, 0, 365, 360, 361], [315, 326, 338, 351, 96, 97, 93, 92, 98, 365, 0, 94, 95], [310, 321, 333, 346, 70, 77, 58, 57, 85, 360, 94, 0, 64], [311, 322, 334, 347, 71, 78, 63, 62, 86, 361, 95, 64, 0]]
def pj_vnm : List String := ["CLASS", "INTERFACE", "FIELD", "METHOD", "ALLOW", "DENY", "COST", "SHIM", "NEW", "CAST", "CATCH", "GET", "CALL"]
def pj_vtm (i : Nat) : Term := .static "PolicyDesk$Verb" (pj_vnm.getD i "") "LPolicyDesk$Verb;"
theorem pj_FLv : ∀ i, i < 13 → (pj_FL[pj_vb.getD i 0]? = some (.exactly (pj_vtm i) "PolicyDesk$Verb") ∧ pj_FL[pj_vb.getD i 0 + 1]? = some (.eq (.field (pj_vtm i) "java/lang/Enum" "ordinal" "I") (.int (nI i))) ∧ pj_FL[pj_vb.getD i 0 + 2]? = some (.eq (.field (pj_vtm i) "PolicyDesk$Verb" "word" "Ljava/lang/String;") (pj_stm (pd_vw i))) ∧ tables_1[pj_vl.getD i 0]? = some (.laysStatic "PolicyDesk$Verb" (pj_vnm.getD i "") "LPolicyDesk$Verb;") ∧ pj_FL[18 + i]? = some (.eq (.elem (.static "PolicyDesk$Verb" "ALL" "[LPolicyDesk$Verb;") (.int (Int32.ofNat i))) (pj_vtm i)) ∧ pd_vw i < 39) := by decide +kernel
theorem pj_FLn : ∀ i, i < 13 → ∀ j, j < 13 → i ≠ j → (pj_FL[(pj_vn.getD i []).getD j 0]? = some (.not (.eq (pj_vtm i) (pj_vtm j))) ∨ pj_FL[(pj_vn.getD i []).getD j 0]? = some (.not (.eq (pj_vtm j) (pj_vtm i)))) := by decide +kernel
theorem pj_FLa_o : pj_FL[100]? = some (.arrayOf (.static "java/lang/Integer" "DigitOnes" "[B") .byte) ∧ pj_FL[101]? = some (.eq (.length (.static "java/lang/Integer" "DigitOnes" "[B")) (.int (Int32.ofNat 100))) ∧ ∀ t, t < 100 → pj_FL[102 + t]? = some (.eq (.elem (.static "java/lang/Integer" "DigitOnes" "[B") (.int (Int32.ofNat t))) (.int (pd_ones t))) := by decide +kernel
theorem pj_FLa_t : pj_FL[203]? = some (.arrayOf (.static "java/lang/Integer" "DigitTens" "[B") .byte) ∧ pj_FL[204]? = some (.eq (.length (.static "java/lang/Integer" "DigitTens" "[B")) (.int (Int32.ofNat 100))) ∧ ∀ t, t < 100 → pj_FL[205 + t]? = some (.eq (.elem (.static "java/lang/Integer" "DigitTens" "[B") (.int (Int32.ofNat t))) (.int (pd_tens t))) := by decide +kernel
theorem pj_FLa_m : pj_FL[32]? = some (.arrayOf (.static "PolicyDesk$1" "$SwitchMap$PolicyDesk$Verb" "[I") .int) ∧ pj_FL[33]? = some (.eq (.length (.static "PolicyDesk$1" "$SwitchMap$PolicyDesk$Verb" "[I")) (.int (Int32.ofNat 13))) ∧ ∀ t, t < 13 → pj_FL[34 + t]? = some (.eq (.elem (.static "PolicyDesk$1" "$SwitchMap$PolicyDesk$Verb" "[I") (.int (Int32.ofNat t))) (.int (nI (pd_map t)))) := by decide +kernel
/-- the constants' heap: what the start's own heap holds, read off -/
def pj_vi (v : Option Value) : Int32 := match v with
  | some (.int x) => x
  | _ => 0
def pj_nn (cell : Cell) : Nat := cell.slots.size.toInt32.toNatClampNeg
def pj_af (cell : Cell) (j : Nat) : Int32 := if j < pj_nn cell then pj_vi cell.slots[j]? else 0
def pj_kd (s : State) (cell : Cell) : Option Kind := (s.vm.classes[cell.cls]?).map (fun k => k.kind)
def pj_rf (D : va_G) (s : State) (vb : Nat → Nat) (a : Nat) : pd_C := match s.heap[a]? with
  | none => (0, .inr (0, []))
  | some cl9 => match pj_kd s cl9 with
    | some (.array _ .byte) => (0, .inl (.byte, pj_nn cl9, .inl (pj_af cl9)))
    | some (.array _ .int) => (0, .inl (.int, pj_nn cl9, .inl (pj_af cl9)))
    | some (.array _ (.object n)) => if n = "java/lang/Object" then (0, .inl (.object "java/lang/Object", 0, .inr (.inr (.inr (.inr (fun _ => none)))))) else (0, .inl (.object "PolicyDesk$Verb", 13, .inr (.inr (.inr (.inr (fun i => some (vb i)))))))
    | _ => (0, .inr (12, [(cl9.slots[D.2 12 0]?).getD .null, .int (nI 0)]))
noncomputable def pj_h0 (D : va_G) (s : State) (vb : Nat → Nat) : pd_H := fun a => @ite _ (pd_rd D s s.heap a (pj_rf D s vb a)) (Classical.propDecidable _) (some (pj_rf D s vb a)) none
theorem pj_h0_is {D : va_G} {s : State} {vb : Nat → Nat} {a : Nat} {c : pd_C} (h1 : pj_rf D s vb a = c) (h2 : pd_rd D s s.heap a c) : pj_h0 D s vb a = some c := by
  unfold pj_h0
  rw [h1]
  exact if_pos h2
theorem pj_h0_rd {D : va_G} {s : State} {vb : Nat → Nat} {a : Nat} {c : pd_C} (h : pj_h0 D s vb a = some c) : pd_rd D s s.heap a c := by
  unfold pj_h0 at h
  split at h
  · cases h
    assumption
  · cases h
theorem pj_rd_lt {D : va_G} {s : State} {a : Nat} {c : pd_C} (h : pd_rd D s s.heap a c) : a < s.heap.size := by
  obtain ⟨t, x | o⟩ := c
  · obtain ⟨cell, hc, _⟩ := h
    exact (Array.getElem?_eq_some_iff.mp hc).1
  · obtain ⟨r, cell, _, hc, _⟩ := h
    exact (Array.getElem?_eq_some_iff.mp hc).1
theorem pj_nn_of {cell : Cell} {N : Nat} (hN : N < 2 ^ 31) (h : cell.slots.size.toInt32 = Int32.ofNat N) : pj_nn cell = N := by
  unfold pj_nn
  rw [h]
  exact i32_toNatClampNeg_ofNat hN
theorem pj_h0_T {D : va_G} {s : State} {vb : Nat → Nat} {ty : FieldType} {t N : Nat} {f : Nat → Int32} {A : Nat → Prop} (hty : ty = .byte ∨ ty = .int) (hN : N < 2 ^ 31) (h : va_T ty t N (fun j => .int (f j)) A s s.heap) : ∃ g : Nat → Int32, pj_h0 D s vb t = some (0, .inl (ty, N, .inl g)) ∧ (∀ j, j < N → g j = f j) ∧ ∀ j, N ≤ j → g j = 0 := by
  obtain ⟨cell, hc, ⟨hs, k, hk, comp, hkind⟩, hv, hn1, hn2, hel, _⟩ := h
  have hnn := pj_nn_of hN hn2
  have hkd : pj_kd s cell = some (.array comp ty) := by unfold pj_kd; rw [hk, ← hkind]; rfl
  have haf : ∀ j, j < N → pj_af cell j = f j := fun j hj => by
    unfold pj_af
    rw [hnn, if_pos hj, hel j hj]
    rfl
  refine ⟨pj_af cell, pj_h0_is ?_ ?_, haf, fun j hj => ?_⟩
  · unfold pj_rf
    rw [hc]
    simp only [hkd]
    rcases hty with rfl | rfl <;> simp only [hnn]
  · exact ⟨cell, hc, ⟨hs, k, hk, comp, hkind⟩, hv, hn1, hn2, fun j hj => by rw [hel j hj]; show some (Value.int (f j)) = some (Value.int (pj_af cell j)); rw [haf j hj], fun z => z⟩
  · unfold pj_af
    rw [hnn, if_neg (by omega)]
theorem pj_h0_O {D : va_G} {s : State} {vb : Nat → Nat} {t : Nat} {f : Nat → Value} {A : Nat → Prop} (h : va_T (.object "java/lang/Object") t 0 f A s s.heap) : pj_h0 D s vb t = some (0, .inl (.object "java/lang/Object", 0, .inr (.inr (.inr (.inr (fun _ => none)))))) := by
  obtain ⟨cell, hc, ⟨hs, k, hk, comp, hkind⟩, hv, hn1, hn2, hel, _⟩ := h
  have hkd : pj_kd s cell = some (.array comp (.object "java/lang/Object")) := by unfold pj_kd; rw [hk, ← hkind]; rfl
  refine pj_h0_is ?_ ⟨cell, hc, ⟨hs, k, hk, comp, hkind⟩, hv, hn1, hn2, fun j hj => absurd hj (Nat.not_lt_zero j), fun z => z⟩
  unfold pj_rf
  rw [hc]
  simp only [hkd]
  exact if_pos trivial
theorem pj_h0_V {D : va_G} {s : State} {vb : Nat → Nat} {t : Nat} {A : Nat → Prop} (h : va_T (.object "PolicyDesk$Verb") t 13 (fun j => .ref (vb j)) A s s.heap) : pj_h0 D s vb t = some (0, .inl (.object "PolicyDesk$Verb", 13, .inr (.inr (.inr (.inr (fun i => some (vb i))))))) := by
  obtain ⟨cell, hc, ⟨hs, k, hk, comp, hkind⟩, hv, hn1, hn2, hel, _⟩ := h
  have hkd : pj_kd s cell = some (.array comp (.object "PolicyDesk$Verb")) := by unfold pj_kd; rw [hk, ← hkind]; rfl
  refine pj_h0_is ?_ ⟨cell, hc, ⟨hs, k, hk, comp, hkind⟩, hv, hn1, hn2, fun j hj => hel j hj, fun z => z⟩
  unfold pj_rf
  rw [hc]
  simp only [hkd]
  exact if_neg (by decide)
theorem pj_h0_S {D : va_G} {s : State} {vb : Nat → Nat} {a v : Nat} {A : Nat → Prop} (hK : u_Kn s "java/lang/String" pd_F12 2 (D.1 12) (D.2 12)) (hO : va_O "java/lang/String" a A s s.heap) (hc : va_OF "java/lang/String" "coder" "B" (.int 0) a A s s.heap) (hv : va_OF "java/lang/String" "value" "[B" (.ref v) a A s s.heap) : pj_h0 D s vb a = some (0, .inr (12, [.ref v, .int (nI 0)])) := by
  obtain ⟨hsl, hfc, kC, hkC, hkind⟩ := hK
  obtain ⟨cell, o1, o2, o3, _⟩ := hO
  obtain ⟨cf, k, i, f, cell1, c1, c2, c3, c4, c5, _⟩ := hc
  obtain ⟨cf2, k2, i2, f2, cell2, v1, v2, v3, v4, v5, _⟩ := hv
  cases o1.symm.trans c3
  cases o1.symm.trans v3
  have hcls : cell.cls = D.1 12 := Option.some.inj (o3.symm.trans hfc)
  obtain ⟨a1, a2, a3, a4, s0, s0e⟩ := hsl 0 (by decide)
  obtain ⟨b1, b2, b3, b4, s1, s1e⟩ := hsl 1 (by decide)
  have s0 : s.fieldFound? "java/lang/String" "value" "[B" = some (a1, a2, a3, a4) := s0
  have s1 : s.fieldFound? "java/lang/String" "coder" "B" = some (b1, b2, b3, b4) := s1
  cases v1.symm.trans s0
  cases c1.symm.trans s1
  rw [s0e] at v5
  rw [s1e] at c5
  have hkd : pj_kd s cell = some .ordinary := by unfold pj_kd; rw [hcls, hkC, ← hkind]; rfl
  refine pj_h0_is ?_ ⟨_, cell, rfl, o1, hcls, o2, c4, fun j hj => ?_⟩
  · unfold pj_rf
    rw [o1]
    simp only [hkd, v5]
    rfl
  · have hj : j < 2 := hj
    rcases (show j = 0 ∨ j = 1 by omega) with rfl | rfl
    · exact v5
    · exact c5
theorem pd_str1 {args : Array Value} {s : State} (hgv : (Jvm.Cond.and given_1 narrow_1).before args s = true) {A : Nat → Prop} (hA : ∀ a : Nat, a < s.heap.size → ¬ A a) (j : Nat) : ∃ q : Nat × Nat, j < 39 → (pj_stm j).eval args s none [] s = some (.ref q.1) ∧ va_O "java/lang/String" q.1 A s s.heap ∧ va_OF "java/lang/String" "coder" "B" (.int 0) q.1 A s s.heap ∧ va_OF "java/lang/String" "value" "[B" (.ref q.2) q.1 A s s.heap ∧ va_T .byte q.2 (pd_lit j).length (fun t => .int (sb_b ((pd_lit j).getD t 0))) A s s.heap := by
  by_cases hj : j < 39
  · obtain ⟨f1, f2, f3⟩ := pj_FLs j hj
    obtain ⟨f4, hlt, _⟩ := pj_FLs2 j hj
    obtain ⟨a, c, cA, kA, q1, q2, q3, q4, q5, q6, -⟩ := Cond.exactly_spec (args := args) (first := s) (o := none) (s := s) (idx := []) (t := pj_stm j) (cls := "java/lang/String") (pj_FL_at hgv _ f1)
    obtain ⟨t, ht, hT⟩ := va_Tof (tm := pj_sv j) (f := fun t => .int (sb_b ((pd_lit j).getD t 0))) (A := A) hlt (pj_FL_at hgv _ f3) (va_eqt (pj_FL_at hgv _ f4)) (fun t h => va_eqt (pj_FL_at hgv _ (pj_FLs3 j hj t h))) hA
    exact ⟨(a, t), fun _ => ⟨q1, ⟨cA, q3, q5, by rw [q6]; exact q2, hA a (Array.getElem?_eq_some_iff.mp q3).1⟩, vk_OFof q1 (va_eqt (pj_FL_at hgv _ f2)) hA, vk_OFof q1 ht hA, hT⟩⟩
  · exact ⟨(0, 0), fun h => absurd h hj⟩
theorem pd_verb1 {args : Array Value} {s : State} (hgv : (Jvm.Cond.and given_1 narrow_1).before args s = true) {A : Nat → Prop} (hA : ∀ a : Nat, a < s.heap.size → ¬ A a) (i : Nat) : ∃ q : Nat, i < 13 → (pj_vtm i).eval args s none [] s = some (.ref q) ∧ va_O "PolicyDesk$Verb" q A s s.heap ∧ va_OF "java/lang/Enum" "ordinal" "I" (.int (nI i)) q A s s.heap := by
  by_cases hi : i < 13
  · obtain ⟨f1, f2, _⟩ := pj_FLv i hi
    obtain ⟨a, c, cA, kA, q1, q2, q3, q4, q5, q6, -⟩ := Cond.exactly_spec (args := args) (first := s) (o := none) (s := s) (idx := []) (t := pj_vtm i) (cls := "PolicyDesk$Verb") (pj_FL_at hgv _ f1)
    exact ⟨a, fun _ => ⟨q1, ⟨cA, q3, q5, by rw [q6]; exact q2, hA a (Array.getElem?_eq_some_iff.mp q3).1⟩, vk_OFof q1 (va_eqt (pj_FL_at hgv _ f2)) hA⟩⟩
  · exact ⟨0, fun h => absurd h hi⟩
/-- a private method of a class above is found where it stands, where one of its sisters is -/
theorem pd_sel_priv {C : String} {y z : MethodName} {args : Array Value} {s : State} (hyz : y.cls = z.cls) (hy : y.cls ≠ "java/lang/invoke/MethodHandle" ∧ y.cls ≠ "java/lang/invoke/VarHandle") (hs : (Cond.selects C z z).before args s = true) (hpriv : (Cond.privateMethod y).before args s = true) (hinst : (Cond.instanceMethod y).before args s = true) (hinz : (Cond.instanceMethod z).before args s = true) : (Cond.selects C y y).before args s = true := by
  obtain ⟨mk, methM, hnamed, hmethM, -, -⟩ := Cond.instanceMethod_spec hinst
  obtain ⟨mz, methZ, hnamez, hmethZ, -, -⟩ := Cond.instanceMethod_spec hinz
  have hfound : s.methodFound? y.cls y.name y.desc = some mk := State.methodFound?_of_named hnamed hy
  have hfoundz : s.methodFound? z.cls z.name z.desc = some mz := State.methodFound?_of_named hnamez (by rw [← hyz]; exact hy)
  have hcls : mk.cls = mz.cls := Option.some.inj ((findClass_of_methodNamed hnamed).symm.trans (by rw [hyz]; exact findClass_of_methodNamed hnamez))
  cases hc : s.vm.findClass C with
  | none => simp [Cond.before, Cond.holds, Cond.value, hc] at hs
  | some c =>
    have hsel : selectMethod {} s.vm c mk = .method mk := selectMethod_private hmethM (Cond.privateMethod_at hpriv mk methM hnamed hmethM)
    simp only [Cond.before, Cond.holds, Cond.value, hc, hfoundz, hnamez] at hs
    simp only [Cond.before, Cond.holds, Cond.value, hc, hfound, hnamed, hsel, hcls]
    split at hs
    · simp at hs ⊢
      exact hs.2
    · simp at hs
theorem pd_Ps_of {args : Array Value} {s : State} (hts : ∀ w ∈ lw_tbl, w.before args s = true) : ∀ w ∈ pd_Ps, w.before args s = true := by
  intro w hw
  simp only [pd_Ps, List.mem_cons, List.mem_nil_iff, or_false] at hw
  rcases hw with rfl | rfl | rfl | rfl | rfl | rfl
  · exact pd_sel_priv (y := ⟨"java/lang/AbstractStringBuilder", "ensureCapacityInternal", "(I)V"⟩) (z := ⟨"java/lang/AbstractStringBuilder", "isLatin1", "()Z"⟩) rfl (by decide) (pj_tb hts 445 (by decide +kernel)) (pj_tb hts 423 (by decide +kernel)) (pj_tb hts 424 (by decide +kernel)) (pj_tb hts 443 (by decide +kernel))
  · exact pd_sel_priv (y := ⟨"java/lang/AbstractStringBuilder", "newCapacity", "(I)I"⟩) (z := ⟨"java/lang/AbstractStringBuilder", "isLatin1", "()Z"⟩) rfl (by decide) (pj_tb hts 445 (by decide +kernel)) (pj_tb hts 427 (by decide +kernel)) (pj_tb hts 428 (by decide +kernel)) (pj_tb hts 443 (by decide +kernel))
  · exact pd_sel_priv (y := ⟨"java/lang/AbstractStringBuilder", "inflate", "()V"⟩) (z := ⟨"java/lang/AbstractStringBuilder", "isLatin1", "()Z"⟩) rfl (by decide) (pj_tb hts 445 (by decide +kernel)) (pj_tb hts 451 (by decide +kernel)) (pj_tb hts 452 (by decide +kernel)) (pj_tb hts 443 (by decide +kernel))
  · exact pd_sel_priv (y := ⟨"java/lang/AbstractStringBuilder", "appendNull", "()Ljava/lang/AbstractStringBuilder;"⟩) (z := ⟨"java/lang/AbstractStringBuilder", "isLatin1", "()Z"⟩) rfl (by decide) (pj_tb hts 445 (by decide +kernel)) (pj_tb hts 1031 (by decide +kernel)) (pj_tb hts 1032 (by decide +kernel)) (pj_tb hts 443 (by decide +kernel))
  · exact pd_sel_priv (y := ⟨"java/lang/AbstractStringBuilder", "putStringAt", "(ILjava/lang/String;)V"⟩) (z := ⟨"java/lang/AbstractStringBuilder", "isLatin1", "()Z"⟩) rfl (by decide) (pj_tb hts 445 (by decide +kernel)) (pj_tb hts 1039 (by decide +kernel)) (pj_tb hts 1040 (by decide +kernel)) (pj_tb hts 443 (by decide +kernel))
  · exact pd_sel_priv (y := ⟨"java/lang/AbstractStringBuilder", "inflateIfNeededFor", "(Ljava/lang/String;)V"⟩) (z := ⟨"java/lang/AbstractStringBuilder", "isLatin1", "()Z"⟩) rfl (by decide) (pj_tb hts 445 (by decide +kernel)) (pj_tb hts 1043 (by decide +kernel)) (pj_tb hts 1044 (by decide +kernel)) (pj_tb hts 443 (by decide +kernel))
theorem pd_classes {args : Array Value} {s : State} (hts : ∀ w ∈ lw_tbl, w.before args s = true) : ∃ D : va_G, va_K D vwCl [] s := by
  obtain ⟨c0, iS0, hKn0⟩ := u_known (C := "PolicyDesk") (T := pd_F0) (N := 10) (n := 10) hts (pd_vw_lays ("PolicyDesk", pd_F0, 10) (List.mem_of_getElem? (i := 0) rfl)) (pj_tb hts 33 (by decide +kernel))
  obtain ⟨c1, iS1, hKn1⟩ := u_known (C := "PolicyDesk$Audit") (T := pd_F1) (N := 5) (n := 5) hts (pd_vw_lays ("PolicyDesk$Audit", pd_F1, 5) (List.mem_of_getElem? (i := 1) rfl)) (pj_tb hts 342 (by decide +kernel))
  obtain ⟨c2, iS2, hKn2⟩ := u_known (C := "PolicyDesk$ClassRow") (T := pd_F2) (N := 9) (n := 9) hts (pd_vw_lays ("PolicyDesk$ClassRow", pd_F2, 9) (List.mem_of_getElem? (i := 2) rfl)) (pj_tb hts 80 (by decide +kernel))
  obtain ⟨c3, iS3, hKn3⟩ := u_known (C := "PolicyDesk$Classes") (T := pd_F3) (N := 4) (n := 4) hts (pd_vw_lays ("PolicyDesk$Classes", pd_F3, 4) (List.mem_of_getElem? (i := 3) rfl)) (pj_tb hts 74 (by decide +kernel))
  obtain ⟨c4, iS4, hKn4⟩ := u_known (C := "PolicyDesk$Line") (T := pd_F4) (N := 3) (n := 3) hts (pd_vw_lays ("PolicyDesk$Line", pd_F4, 3) (List.mem_of_getElem? (i := 4) rfl)) (pj_tb hts 480 (by decide +kernel))
  obtain ⟨c5, iS5, hKn5⟩ := u_known (C := "PolicyDesk$MemberRow") (T := pd_F5) (N := 6) (n := 6) hts (pd_vw_lays ("PolicyDesk$MemberRow", pd_F5, 6) (List.mem_of_getElem? (i := 5) rfl)) (pj_tb hts 805 (by decide +kernel))
  obtain ⟨c6, iS6, hKn6⟩ := u_known (C := "PolicyDesk$Members") (T := pd_F6) (N := 2) (n := 2) hts (pd_vw_lays ("PolicyDesk$Members", pd_F6, 2) (List.mem_of_getElem? (i := 6) rfl)) (pj_tb hts 310 (by decide +kernel))
  obtain ⟨c7, iS7, hKn7⟩ := u_known (C := "PolicyDesk$Pattern") (T := pd_F7) (N := 5) (n := 5) hts (pd_vw_lays ("PolicyDesk$Pattern", pd_F7, 5) (List.mem_of_getElem? (i := 7) rfl)) (pj_tb hts 869 (by decide +kernel))
  obtain ⟨c8, iS8, hKn8⟩ := u_known (C := "PolicyDesk$RuleRow") (T := pd_F8) (N := 4) (n := 4) hts (pd_vw_lays ("PolicyDesk$RuleRow", pd_F8, 4) (List.mem_of_getElem? (i := 8) rfl)) (pj_tb hts 867 (by decide +kernel))
  obtain ⟨c9, iS9, hKn9⟩ := u_known (C := "PolicyDesk$Rules") (T := pd_F9) (N := 2) (n := 2) hts (pd_vw_lays ("PolicyDesk$Rules", pd_F9, 2) (List.mem_of_getElem? (i := 9) rfl)) (pj_tb hts 326 (by decide +kernel))
  obtain ⟨c10, iS10, hKn10⟩ := u_known (C := "PolicyDeskModel") (T := pd_F10) (N := 44) (n := 44) hts (pd_vw_lays ("PolicyDeskModel", pd_F10, 44) (List.mem_of_getElem? (i := 10) rfl)) (pj_tb hts 1127 (by decide +kernel))
  obtain ⟨c11, iS11, hKn11⟩ := u_known (C := "java/lang/StringBuilder") (T := pd_F11) (N := 4) (n := 4) hts (pd_vw_lays ("java/lang/StringBuilder", pd_F11, 4) (List.mem_of_getElem? (i := 11) rfl)) (pj_tb hts 41 (by decide +kernel))
  obtain ⟨c12, iS12, hKn12⟩ := u_known (C := "java/lang/String") (T := pd_F12) (N := 2) (n := 4) hts (pd_vw_lays ("java/lang/String", pd_F12, 2) (List.mem_of_getElem? (i := 12) rfl)) (pj_tb hts 486 (by decide +kernel))
  obtain ⟨c13, iS13, hKn13⟩ := u_known (C := "java/util/ArrayList") (T := pd_F13) (N := 3) (n := 3) hts (pd_vw_lays ("java/util/ArrayList", pd_F13, 3) (List.mem_of_getElem? (i := 13) rfl)) (pj_tb hts 143 (by decide +kernel))
  refine ⟨(fun k => ([c0, c1, c2, c3, c4, c5, c6, c7, c8, c9, c10, c11, c12, c13] : List ClassId).getD k c0, fun k => ([iS0, iS1, iS2, iS3, iS4, iS5, iS6, iS7, iS8, iS9, iS10, iS11, iS12, iS13] : List (Nat → Nat)).getD k iS0), ?_, fun k q h => by simp at h⟩
  intro k q hq
  match k, hq with
  | 0, hq => cases hq; exact hKn0
  | 1, hq => cases hq; exact hKn1
  | 2, hq => cases hq; exact hKn2
  | 3, hq => cases hq; exact hKn3
  | 4, hq => cases hq; exact hKn4
  | 5, hq => cases hq; exact hKn5
  | 6, hq => cases hq; exact hKn6
  | 7, hq => cases hq; exact hKn7
  | 8, hq => cases hq; exact hKn8
  | 9, hq => cases hq; exact hKn9
  | 10, hq => cases hq; exact hKn10
  | 11, hq => cases hq; exact hKn11
  | 12, hq => cases hq; exact hKn12
  | 13, hq => cases hq; exact hKn13
  | k + 14, hq => simp [vwCl] at hq
theorem pd_entry {p : Program} {s : State} {m : MethodId} {meth : Method} {c : Code} {b L : Nat} {xs : Nat → Int32} (hL : L ≤ 1536) (hts : ∀ w ∈ lw_tbl, w.before #[Value.ref b] s = true) (hX : va_X b L xs s s.heap) (hgv : (Jvm.Cond.and given_1 narrow_1).before #[Value.ref b] s = true) : ∃ G : pd_G, G.2.1 = s.heap.size ∧ pd_E G s ∧ pd_w G s s.heap [] G.2.2.1 ∧ ∃ f : Nat → Int32, G.2.2.1 b = some (0, .inl (.int, L, .inl f)) := by
  have hA : ∀ a : Nat, a < s.heap.size → ¬ (fun q => s.heap.size ≤ q) a := fun a h => Nat.not_le.mpr h
  obtain ⟨D, hK⟩ := pd_classes hts
  obtain ⟨sq, hsq⟩ := Classical.axiomOfChoice (pd_str1 hgv hA)
  obtain ⟨vb, hvb⟩ := Classical.axiomOfChoice (pd_verb1 hgv hA)
  obtain ⟨a0, e0, t0⟩ := va_Tof (tm := (.static "java/util/ArrayList" "DEFAULTCAPACITY_EMPTY_ELEMENTDATA" "[Ljava/lang/Object;")) (ty := .object "java/lang/Object") (N := 0) (f := fun _ => .null) (by decide) (pj_FL_at hgv 10 (by decide +kernel)) (va_eqt (pj_FL_at hgv 12 (by decide +kernel))) (fun j hj => absurd hj (Nat.not_lt_zero j)) hA
  obtain ⟨a1, e1, t1⟩ := va_Tof (tm := (.static "PolicyDesk$Verb" "ALL" "[LPolicyDesk$Verb;")) (ty := .object "PolicyDesk$Verb") (N := 13) (f := fun j => .ref (vb j)) (by decide) (pj_FL_at hgv 15 (by decide +kernel)) (va_eqt (pj_FL_at hgv 16 (by decide +kernel))) (fun j hj => va_eqv (pj_FL_at hgv _ (pj_FLv j hj).2.2.2.2.1) (hvb j hj).1) hA
  obtain ⟨a2, e2, t2⟩ := va_Tof (tm := (.static "PolicyDesk$1" "$SwitchMap$PolicyDesk$Verb" "[I")) (ty := .int) (N := 13) (f := fun t => .int (nI (pd_map t))) (by decide) (pj_FL_at hgv _ pj_FLa_m.1) (va_eqt (pj_FL_at hgv _ pj_FLa_m.2.1)) (fun j hj => va_eqt (pj_FL_at hgv _ (pj_FLa_m.2.2 j hj))) hA
  obtain ⟨a3, e3, t3⟩ := va_Tof (tm := (.static "java/lang/Integer" "DigitOnes" "[B")) (ty := .byte) (N := 100) (f := fun t => .int (pd_ones t)) (by decide) (pj_FL_at hgv _ pj_FLa_o.1) (va_eqt (pj_FL_at hgv _ pj_FLa_o.2.1)) (fun j hj => va_eqt (pj_FL_at hgv _ (pj_FLa_o.2.2 j hj))) hA
  obtain ⟨a4, e4, t4⟩ := va_Tof (tm := (.static "java/lang/Integer" "DigitTens" "[B")) (ty := .byte) (N := 100) (f := fun t => .int (pd_tens t)) (by decide) (pj_FL_at hgv _ pj_FLa_t.1) (va_eqt (pj_FL_at hgv _ pj_FLa_t.2.1)) (fun j hj => va_eqt (pj_FL_at hgv _ (pj_FLa_t.2.2 j hj))) hA
  obtain ⟨a5, hmi⟩ := va_Mi.of (C := "[Ljava/lang/Object;") (pj_FL_at hgv 385 (by decide +kernel))
  obtain ⟨ad, had⟩ : ∃ ad : Nat → Nat, (ad 0 = a0 ∧ ad 1 = a1 ∧ ad 2 = a2 ∧ ad 3 = a3 ∧ ad 4 = a4 ∧ ad 5 = a5) ∧ (∀ i, i < 13 → ad (10 + i) = vb i) ∧ ∀ j, j < 39 → ad (40 + j) = (sq j).1 := ⟨fun k => if k = 0 then a0 else if k = 1 then a1 else if k = 2 then a2 else if k = 3 then a3 else if k = 4 then a4 else if k = 5 then a5 else if k < 40 then vb (k - 10) else (sq (k - 40)).1, ⟨rfl, rfl, rfl, rfl, rfl, rfl⟩, fun i hi => by simp only [if_neg (show ¬ 10 + i = 0 by omega), if_neg (show ¬ 10 + i = 1 by omega), if_neg (show ¬ 10 + i = 2 by omega), if_neg (show ¬ 10 + i = 3 by omega), if_neg (show ¬ 10 + i = 4 by omega), if_neg (show ¬ 10 + i = 5 by omega), if_pos (show 10 + i < 40 by omega)]; rw [Nat.add_sub_cancel_left], fun i hi => by simp only [if_neg (show ¬ 40 + i = 0 by omega), if_neg (show ¬ 40 + i = 1 by omega), if_neg (show ¬ 40 + i = 2 by omega), if_neg (show ¬ 40 + i = 3 by omega), if_neg (show ¬ 40 + i = 4 by omega), if_neg (show ¬ 40 + i = 5 by omega), if_neg (show ¬ 40 + i < 40 by omega)]; rw [Nat.add_sub_cancel_left]⟩
  obtain ⟨⟨z0, z1, z2, z3, z4, z5⟩, zv, zs⟩ := had
  have hKS : u_Kn s "java/lang/String" pd_F12 2 (D.1 12) (D.2 12) := hK.1 12 _ rfl
  obtain ⟨scr, x1, x2, x3, x4, x5⟩ := hX
  have tb : va_T .int b L (fun j => .int (xs j)) (fun q => s.heap.size ≤ q) s s.heap := ⟨scr, x1, x2, x3, by omega, by rw [x4], x5, hA b (Array.getElem?_eq_some_iff.mp x1).1⟩
  obtain ⟨fb, hfb, _, _⟩ := pj_h0_T (D := D) (vb := fun i => ad (10 + i)) (Or.inr rfl) (by omega) tb
  obtain ⟨g2, hg2, i2, j2⟩ := pj_h0_T (D := D) (vb := fun i => ad (10 + i)) (f := fun t => nI (pd_map t)) (Or.inr rfl) (by decide) t2
  obtain ⟨g3, hg3, i3, j3⟩ := pj_h0_T (D := D) (vb := fun i => ad (10 + i)) (f := pd_ones) (Or.inl rfl) (by decide) t3
  obtain ⟨g4, hg4, i4, j4⟩ := pj_h0_T (D := D) (vb := fun i => ad (10 + i)) (f := pd_tens) (Or.inl rfl) (by decide) t4
  have k2 : g2 = fun t => nI (pd_map t) := funext fun t => by
    by_cases h : t < 13
    · exact i2 t h
    · rw [j2 t (by omega)]
      show (0 : Int32) = nI (pd_map t)
      unfold pd_map
      rw [List.getD_eq_getElem?_getD, List.getElem?_eq_none (by show 13 ≤ t; omega)]
      rfl
  have k3 : g3 = pd_ones := funext fun t => by
    by_cases h : t < 100
    · exact i3 t h
    · rw [j3 t (by omega)]
      unfold pd_ones
      rw [List.getD_eq_getElem?_getD, List.getElem?_eq_none (by show 100 ≤ t; omega)]
      rfl
  have k4 : g4 = pd_tens := funext fun t => by
    by_cases h : t < 100
    · exact i4 t h
    · rw [j4 t (by omega)]
      unfold pd_tens
      rw [List.getD_eq_getElem?_getD, List.getElem?_eq_none (by show 100 ≤ t; omega)]
      rfl
  rw [k2] at hg2
  rw [k3] at hg3
  rw [k4] at hg4
  have hg0 := pj_h0_O (D := D) (vb := fun i => ad (10 + i)) t0
  have t1 : va_T (.object "PolicyDesk$Verb") a1 13 (fun j => .ref (ad (10 + j))) (fun q => s.heap.size ≤ q) s s.heap := by
    obtain ⟨cell, y1, y2, y3, y4, y5, y6, y7⟩ := t1
    exact ⟨cell, y1, y2, y3, y4, y5, fun j hj => by show cell.slots[j]? = some (Value.ref (ad (10 + j))); rw [zv j hj]; exact y6 j hj, y7⟩
  have hg1 := pj_h0_V (D := D) (vb := fun i => ad (10 + i)) t1
  have hE : pd_E (D, s.heap.size, pj_h0 D s (fun i => ad (10 + i)), ad) s := by
    refine ⟨hK, Nat.le_refl _, fun x d h => pj_rd_lt (pj_h0_rd h), ?_, ?_, ?_, ?_, ?_, ?_, ?_, ?_, ?_⟩
    · intro q hq
      show va_Z q.1 q.2.1 q.2.2.1 q.2.2.2 (fun q => s.heap.size ≤ q) s s.heap
      have hq : q ∈ pd_Zs ad := hq
      simp only [pd_Zs, z0, z1, z2, z3, z4, List.mem_cons, List.mem_nil_iff, or_false] at hq
      rcases hq with rfl | rfl | rfl | rfl | rfl | rfl | rfl | rfl | rfl | rfl | rfl | rfl | rfl | rfl | rfl | rfl | rfl | rfl | rfl
      · exact va_Zof (C := "java/lang/String") (n := "COMPACT_STRINGS") (d := "Z") (pj_tb hts 50 (by decide +kernel)) (pj_tb hts 4 (by decide +kernel)) (va_eqt (pj_FL_at hgv 4 (by decide +kernel))) hA
      · exact va_Zof (C := "java/util/ArrayList") (n := "DEFAULTCAPACITY_EMPTY_ELEMENTDATA") (d := "[Ljava/lang/Object;") (pj_tb hts 155 (by decide +kernel)) (pj_tb hts 12 (by decide +kernel)) (e0) hA
      · exact va_Zof (C := "PolicyDesk$Verb") (n := "ALL") (d := "[LPolicyDesk$Verb;") (pj_tb hts 611 (by decide +kernel)) (pj_tb hts 24 (by decide +kernel)) (e1) hA
      · exact va_Zof (C := "PolicyDesk$1") (n := "$SwitchMap$PolicyDesk$Verb") (d := "[I") (pj_tb hts 624 (by decide +kernel)) (pj_tb hts 26 (by decide +kernel)) (e2) hA
      · exact va_Zof (C := "java/lang/Integer") (n := "DigitOnes") (d := "[B") (pj_tb hts 1011 (by decide +kernel)) (pj_tb hts 31 (by decide +kernel)) (e3) hA
      · exact va_Zof (C := "java/lang/Integer") (n := "DigitTens") (d := "[B") (pj_tb hts 1013 (by decide +kernel)) (pj_tb hts 31 (by decide +kernel)) (e4) hA
      · exact (by have z := zv 0 (by decide); rw [show ad 10 = vb 0 from z]; exact va_Zof (C := "PolicyDesk$Verb") (n := "CLASS") (d := "LPolicyDesk$Verb;") (pj_tb hts _ (pj_FLv 0 (by decide)).2.2.2.1) (pj_tb hts 24 (by decide +kernel)) (hvb 0 (by decide)).1 hA)
      · exact (by have z := zv 1 (by decide); rw [show ad 11 = vb 1 from z]; exact va_Zof (C := "PolicyDesk$Verb") (n := "INTERFACE") (d := "LPolicyDesk$Verb;") (pj_tb hts _ (pj_FLv 1 (by decide)).2.2.2.1) (pj_tb hts 24 (by decide +kernel)) (hvb 1 (by decide)).1 hA)
      · exact (by have z := zv 2 (by decide); rw [show ad 12 = vb 2 from z]; exact va_Zof (C := "PolicyDesk$Verb") (n := "FIELD") (d := "LPolicyDesk$Verb;") (pj_tb hts _ (pj_FLv 2 (by decide)).2.2.2.1) (pj_tb hts 24 (by decide +kernel)) (hvb 2 (by decide)).1 hA)
      · exact (by have z := zv 3 (by decide); rw [show ad 13 = vb 3 from z]; exact va_Zof (C := "PolicyDesk$Verb") (n := "METHOD") (d := "LPolicyDesk$Verb;") (pj_tb hts _ (pj_FLv 3 (by decide)).2.2.2.1) (pj_tb hts 24 (by decide +kernel)) (hvb 3 (by decide)).1 hA)
      · exact (by have z := zv 4 (by decide); rw [show ad 14 = vb 4 from z]; exact va_Zof (C := "PolicyDesk$Verb") (n := "ALLOW") (d := "LPolicyDesk$Verb;") (pj_tb hts _ (pj_FLv 4 (by decide)).2.2.2.1) (pj_tb hts 24 (by decide +kernel)) (hvb 4 (by decide)).1 hA)
      · exact (by have z := zv 5 (by decide); rw [show ad 15 = vb 5 from z]; exact va_Zof (C := "PolicyDesk$Verb") (n := "DENY") (d := "LPolicyDesk$Verb;") (pj_tb hts _ (pj_FLv 5 (by decide)).2.2.2.1) (pj_tb hts 24 (by decide +kernel)) (hvb 5 (by decide)).1 hA)
      · exact (by have z := zv 6 (by decide); rw [show ad 16 = vb 6 from z]; exact va_Zof (C := "PolicyDesk$Verb") (n := "COST") (d := "LPolicyDesk$Verb;") (pj_tb hts _ (pj_FLv 6 (by decide)).2.2.2.1) (pj_tb hts 24 (by decide +kernel)) (hvb 6 (by decide)).1 hA)
      · exact (by have z := zv 7 (by decide); rw [show ad 17 = vb 7 from z]; exact va_Zof (C := "PolicyDesk$Verb") (n := "SHIM") (d := "LPolicyDesk$Verb;") (pj_tb hts _ (pj_FLv 7 (by decide)).2.2.2.1) (pj_tb hts 24 (by decide +kernel)) (hvb 7 (by decide)).1 hA)
      · exact (by have z := zv 8 (by decide); rw [show ad 18 = vb 8 from z]; exact va_Zof (C := "PolicyDesk$Verb") (n := "NEW") (d := "LPolicyDesk$Verb;") (pj_tb hts _ (pj_FLv 8 (by decide)).2.2.2.1) (pj_tb hts 24 (by decide +kernel)) (hvb 8 (by decide)).1 hA)
      · exact (by have z := zv 9 (by decide); rw [show ad 19 = vb 9 from z]; exact va_Zof (C := "PolicyDesk$Verb") (n := "CAST") (d := "LPolicyDesk$Verb;") (pj_tb hts _ (pj_FLv 9 (by decide)).2.2.2.1) (pj_tb hts 24 (by decide +kernel)) (hvb 9 (by decide)).1 hA)
      · exact (by have z := zv 10 (by decide); rw [show ad 20 = vb 10 from z]; exact va_Zof (C := "PolicyDesk$Verb") (n := "CATCH") (d := "LPolicyDesk$Verb;") (pj_tb hts _ (pj_FLv 10 (by decide)).2.2.2.1) (pj_tb hts 24 (by decide +kernel)) (hvb 10 (by decide)).1 hA)
      · exact (by have z := zv 11 (by decide); rw [show ad 21 = vb 11 from z]; exact va_Zof (C := "PolicyDesk$Verb") (n := "GET") (d := "LPolicyDesk$Verb;") (pj_tb hts _ (pj_FLv 11 (by decide)).2.2.2.1) (pj_tb hts 24 (by decide +kernel)) (hvb 11 (by decide)).1 hA)
      · exact (by have z := zv 12 (by decide); rw [show ad 22 = vb 12 from z]; exact va_Zof (C := "PolicyDesk$Verb") (n := "CALL") (d := "LPolicyDesk$Verb;") (pj_tb hts _ (pj_FLv 12 (by decide)).2.2.2.1) (pj_tb hts 24 (by decide +kernel)) (hvb 12 (by decide)).1 hA)
    · intro q hq
      obtain ⟨j, hj, rfl⟩ : ∃ j, j < 39 ∧ q = pd_Ls.getD j ("", 0, "", 0) := by
        obtain ⟨j, hj, hq⟩ := List.getElem_of_mem hq
        exact ⟨j, hj, by rw [List.getD_eq_getElem?_getD, List.getElem?_eq_getElem hj, ← hq]; rfl⟩
      obtain ⟨_, _, hsr, hnum, _⟩ := pj_FLs2 j hj
      show vk_R (pd_Ls.getD j ("", 0, "", 0)).1 (pd_Ls.getD j ("", 0, "", 0)).2.1 (pd_Ls.getD j ("", 0, "", 0)).2.2.1 (ad (pd_Ls.getD j ("", 0, "", 0)).2.2.2) s
      rw [hnum, zs j hj]
      exact vk_R.of (pj_tb hts _ hsr) (hsq j hj).1
    · intro i hi
      show va_O "PolicyDesk$Verb" (ad (10 + i)) (fun q => s.heap.size ≤ q) s s.heap ∧ va_OF "java/lang/Enum" "ordinal" "I" (.int (nI i)) (ad (10 + i)) (fun q => s.heap.size ≤ q) s s.heap ∧ va_OF "PolicyDesk$Verb" "word" "Ljava/lang/String;" (.ref (ad (40 + pd_vw i))) (ad (10 + i)) (fun q => s.heap.size ≤ q) s s.heap
      obtain ⟨_, _, f3, _, _, hw⟩ := pj_FLv i hi
      rw [zv i hi, zs _ hw]
      exact ⟨(hvb i hi).2.1, (hvb i hi).2.2, vk_OFof (hvb i hi).1 (va_eqv (pj_FL_at hgv _ f3) (hsq _ hw).1) hA⟩
    · exact va_Zqof (pj_tb hts 116 (by decide +kernel)) (pj_tb hts 9 (by decide +kernel)) (pj_FL_at hgv 5 (by decide +kernel)) hA
    · refine ⟨fun j hj => ?_, ?_, ?_, ?_, ?_, ?_, fun i j hi hj e => ?_⟩
      · show pd_Str (pj_h0 D s (fun i => ad (10 + i))) (ad (40 + j)) (pd_lit j)
        obtain ⟨_, hlt, _, _, h256, h60⟩ := pj_FLs2 j hj
        obtain ⟨_, o1, o2, o3, o4⟩ := hsq j hj
        obtain ⟨g, hg, hgi, _⟩ := pj_h0_T (D := D) (vb := fun i => ad (10 + i)) (Or.inl rfl) hlt o4
        rw [zs j hj]
        exact ⟨(sq j).2, g, pj_h0_S hKS o1 o2 o3, hg, hgi, h256, h60⟩
      · show pj_h0 D s (fun i => ad (10 + i)) (ad 0) = _
        rw [z0]
        exact hg0
      · show pj_h0 D s (fun i => ad (10 + i)) (ad 1) = some (0, .inl (.object "PolicyDesk$Verb", 13, .inr (.inr (.inr (.inr (fun i => some (ad (10 + i))))))))
        rw [z1]
        exact hg1
      · show pj_h0 D s (fun i => ad (10 + i)) (ad 2) = _
        rw [z2]
        exact hg2
      · show pj_h0 D s (fun i => ad (10 + i)) (ad 3) = _
        rw [z3]
        exact hg3
      · show pj_h0 D s (fun i => ad (10 + i)) (ad 4) = _
        rw [z4]
        exact hg4
      · have e : ad (10 + i) = ad (10 + j) := e
        rw [zv i hi, zv j hj] at e
        by_cases hij : i = j
        · exact hij
        · rcases pj_FLn i hi j hj hij with h | h
          · exact absurd e (va_neR (pj_FL_at hgv _ h) (hvb i hi).1 (hvb j hj).1)
          · exact absurd e.symm (va_neR (pj_FL_at hgv _ h) (hvb j hj).1 (hvb i hi).1)
    · exact fun w hw => va_Nw.of (pd_N_on hw) (hts w (List.mem_filter.mp hw).1)
    · exact fun E hm => va_AO.of (hts _ hm)
    · exact fun w hw => va_Nw.of (pd_Ps_good w hw).1 (pd_Ps_of hts w hw)
    · show va_Mi "[Ljava/lang/Object;" (ad 5) s
      rw [z5]
      exact hmi
  exact ⟨(D, s.heap.size, pj_h0 D s (fun i => ad (10 + i)), ad), rfl, hE, ⟨⟨Nat.le_refl _, fun a c h => ⟨pj_h0_rd h, fun z => absurd (pj_rd_lt (pj_h0_rd h)) (Nat.not_lt.mpr z)⟩⟩, fun a c h => h, va_S.rf⟩, fb, hfb⟩
