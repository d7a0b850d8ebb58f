/-! THE LAYER: an abstract heap, a function from addresses to cells, that the machine's heap represents; contracts speak of it alone -/
/-- a ghost mark, and what stands there: an array (element type, length and contents) or an object (the number of its class in vwCl, its fields' values) -/
abbrev pd_C : Type := Nat × ((FieldType × vp_A) ⊕ (Nat × List Value))
abbrev pd_H : Type := Nat → Option pd_C
/-- class numbers and slots; the first address that is ours; the constants that stand below it; their addresses by number -/
abbrev pd_G : Type := va_G × Nat × pd_H × (Nat → Nat)
def pd_el (x : vp_A) (j : Nat) : Value := match x.2 with
  | .inl f => .int (f j)
  | .inr (.inl f) => .long (f j)
  | .inr (.inr (.inl f)) => .float (f j)
  | .inr (.inr (.inr (.inl f))) => .double (f j)
  | .inr (.inr (.inr (.inr f))) => va_rf (f j)
theorem pd_cell_el (cA : ClassId) (x : vp_A) : vp_cell cA x = arrV cA x.1 (pd_el x) := by
  obtain ⟨n, f | f | f | f | f⟩ := x <;> rfl
def pd_ob (D : va_G) (a ci : Nat) (fs : List Value) (H : Heap) : Prop := ∃ (r : vw_C) (cell : Cell), vwCl[ci]? = some r ∧ H[a]? = some cell ∧ cell.cls = D.1 ci ∧ cell.vm.isStatics = false ∧ cell.vm ≠ .unknown ∧ ∀ k, k < r.2.2 → cell.slots[D.2 ci k]? = some (vp_V fs k)
/-- what reading needs -/
def pd_rd (D : va_G) (U : State) (H : Heap) (a : Nat) (c : pd_C) : Prop := match c.2 with
  | .inl x => va_T x.1 a x.2.1 (pd_el x.2) (fun _ => False) U H
  | .inr o => pd_ob D a o.1 o.2 H
/-- what writing needs -/
def pd_wr (D : va_G) (U : State) (H : Heap) (a : Nat) (c : pd_C) : Prop := match c.2 with
  | .inl x => ∃ cA : ClassId, ArrOfT U cA x.1 ∧ va_RA U cA x.1 ∧ H[a]? = some (vp_cell cA x.2)
  | .inr o => va_at D vwCl (a, .inr o) H
def pd_R (G : pd_G) (U : State) (H : Heap) (h : pd_H) : Prop := G.2.1 ≤ H.size ∧ ∀ (a : Nat) (c : pd_C), h a = some c → pd_rd G.1 U H a c ∧ (G.2.1 ≤ a → pd_wr G.1 U H a c)
/-- the constants are there -/
def pd_Kc (G : pd_G) (h : pd_H) : Prop := ∀ (a : Nat) (c : pd_C), G.2.2.1 a = some c → h a = some c
def pd_le (h h' : pd_H) : Prop := ∀ (a : Nat) (c : pd_C), h a = some c → h' a = some c
theorem pd_le.rf {h : pd_H} : pd_le h h := fun _ _ h => h
theorem pd_le.tr {h1 h2 h3 : pd_H} (a : pd_le h1 h2) (b : pd_le h2 h3) : pd_le h1 h3 := fun x c h => b x c (a x c h)
theorem pd_Kc.le {G : pd_G} {h h' : pd_H} (k : pd_Kc G h) (l : pd_le h h') : pd_Kc G h' := fun a c q => l a c (k a c q)
/-- a cell is written, or comes -/
def pd_up (h : pd_H) (a : Nat) (c : pd_C) : pd_H := fun x => if x = a then some c else h x
theorem pd_up_s (h : pd_H) (a : Nat) (c : pd_C) : pd_up h a c a = some c := by simp [pd_up]
theorem pd_up_n {h : pd_H} {a x : Nat} {c : pd_C} (n : x ≠ a) : pd_up h a c x = h x := by simp [pd_up, n]
theorem pd_up_le {h : pd_H} {a : Nat} {c : pd_C} (n : h a = none) : pd_le h (pd_up h a c) := by
  intro x d hx
  by_cases e : x = a
  · subst e; rw [n] at hx; cases hx
  · rw [pd_up_n e]; exact hx
theorem pd_up_uu (h : pd_H) (a : Nat) (c d : pd_C) : pd_up (pd_up h a c) a d = pd_up h a d := by
  funext x
  by_cases e : x = a
  · simp [pd_up, e]
  · simp [pd_up, e]
theorem pd_rd_of {D : va_G} {U : State} {H : Heap} {a : Nat} {c : pd_C} (h : pd_wr D U H a c) : pd_rd D U H a c := by
  obtain ⟨tg, ⟨ty, x⟩ | ⟨ci, fs⟩⟩ := c
  · obtain ⟨cA, h1, h2, h3⟩ := h
    have h3 : H[a]? = some (vp_cell cA x) := h3
    rw [pd_cell_el] at h3
    refine ⟨_, h3, h1 x.1 (pd_el x), (fun q => by cases q), ?_, ?_, (fun j hj => arrV_read _ _ hj), fun q => q⟩
    · rw [arrV_size]; exact Nat.le_refl _
    · rw [arrV_size]
  · obtain ⟨r, h1, cell, q1, q2, q3, q4⟩ := h
    exact ⟨r, cell, h1, q1, q2, by rw [q3]; rfl, (by rw [q3]; exact fun h => by cases h), q4⟩
theorem pd_wr.lt {D : va_G} {U : State} {H : Heap} {a : Nat} {c : pd_C} (h : pd_rd D U H a c) : a < H.size := by
  obtain ⟨tg, ⟨ty, x⟩ | ⟨ci, fs⟩⟩ := c
  · obtain ⟨cell, h1, -⟩ := h
    exact (Array.getElem?_eq_some_iff.mp h1).1
  · obtain ⟨r, cell, h1, h2, -⟩ := h
    exact (Array.getElem?_eq_some_iff.mp h2).1
theorem pd_rd.kept {D : va_G} {U : State} {H H1 : Heap} {a : Nat} {c : pd_C} (h : pd_rd D U H a c) (e : H1[a]? = H[a]?) : pd_rd D U H1 a c := by
  obtain ⟨tg, ⟨ty, x⟩ | ⟨ci, fs⟩⟩ := c
  · obtain ⟨cell, h1, h2⟩ := h
    exact ⟨cell, by rw [e]; exact h1, h2⟩
  · obtain ⟨r, cell, h1, h2, h3⟩ := h
    exact ⟨r, cell, h1, by rw [e]; exact h2, h3⟩
theorem pd_wr.kept {D : va_G} {U : State} {H H1 : Heap} {a : Nat} {c : pd_C} (h : pd_wr D U H a c) (e : H1[a]? = H[a]?) : pd_wr D U H1 a c := by
  obtain ⟨tg, ⟨ty, x⟩ | ⟨ci, fs⟩⟩ := c
  · obtain ⟨cA, h1, h2, h3⟩ := h
    exact ⟨cA, h1, h2, by rw [e]; exact h3⟩
  · exact va_at.kept (q := (a, .inr (ci, fs))) h e
theorem pd_rd.moved {D : va_G} {u U : State} {H : Heap} {a : Nat} {c : pd_C} (hvm : u.vm.Alike U.vm) (h : pd_rd D u H a c) : pd_rd D U H a c := by
  obtain ⟨tg, ⟨ty, x⟩ | ⟨ci, fs⟩⟩ := c
  · have h : va_T ty a x.1 (pd_el x) (fun _ => False) u H := h
    exact va_T.moved hvm h
  · exact h
theorem pd_wr.moved {D : va_G} {u U : State} {H : Heap} {a : Nat} {c : pd_C} (hvm : u.vm.Alike U.vm) (h : pd_wr D u H a c) : pd_wr D U H a c := by
  obtain ⟨tg, ⟨ty, x⟩ | ⟨ci, fs⟩⟩ := c
  · obtain ⟨cA, h1, h2, h3⟩ := h
    exact ⟨cA, arrOfT_moved hvm h1, h2.moved hvm, h3⟩
  · exact h
theorem pd_R.moved {G : pd_G} {u U : State} {H : Heap} {h : pd_H} (hvm : u.vm.Alike U.vm) (r : pd_R G u H h) : pd_R G U H h :=
  ⟨r.1, fun a c q => ⟨(r.2 a c q).1.moved hvm, fun z => ((r.2 a c q).2 z).moved hvm⟩⟩
theorem pd_R.lt {G : pd_G} {U : State} {H : Heap} {h : pd_H} (r : pd_R G U H h) {a : Nat} {c : pd_C} (q : h a = some c) : a < H.size := pd_wr.lt (r.2 a c q).1
theorem pd_R.out {G : pd_G} {U : State} {H : Heap} {h : pd_H} (r : pd_R G U H h) {a : Nat} (q : H.size ≤ a) : h a = none := by
  cases e : h a with
  | none => rfl
  | some c => exact absurd (r.lt e) (Nat.not_lt.mpr q)
/-- a cell of ours is written -/
theorem pd_R.put {G : pd_G} {U : State} {H H1 : Heap} {h : pd_H} (r : pd_R G U H h) {a : Nat} {c : pd_C} (w : pd_wr G.1 U H1 a c) (z : H1.size = H.size) (oq : ∀ q : Nat, q ≠ a → H1[q]? = H[q]?) : pd_R G U H1 (pd_up h a c) := by
  refine ⟨by rw [z]; exact r.1, fun x d hx => ?_⟩
  by_cases e : x = a
  · subst e
    rw [pd_up_s] at hx
    cases hx
    exact ⟨pd_rd_of w, fun _ => w⟩
  · rw [pd_up_n e] at hx
    exact ⟨(r.2 x d hx).1.kept (oq x e), fun q => ((r.2 x d hx).2 q).kept (oq x e)⟩
/-- a cell comes -/
theorem pd_R.new {G : pd_G} {U : State} {H H1 : Heap} {h : pd_H} (r : pd_R G U H h) {c : pd_C} (w : pd_wr G.1 U H1 H.size c) (z : H1.size = H.size + 1) (oq : ∀ q : Nat, q < H.size → H1[q]? = H[q]?) : pd_R G U H1 (pd_up h H.size c) := by
  refine ⟨by have := r.1; omega, fun x d hx => ?_⟩
  by_cases e : x = H.size
  · subst e
    rw [pd_up_s] at hx
    cases hx
    exact ⟨pd_rd_of w, fun _ => w⟩
  · rw [pd_up_n e] at hx
    have hl := r.lt hx
    exact ⟨(r.2 x d hx).1.kept (oq x hl), fun q => ((r.2 x d hx).2 q).kept (oq x hl)⟩
theorem pd_Kc.put {G : pd_G} {h : pd_H} {a : Nat} {c : pd_C} (k : pd_Kc G h) (hz : ∀ (x : Nat) (d : pd_C), G.2.2.1 x = some d → x < G.2.1) (ha : G.2.1 ≤ a) : pd_Kc G (pd_up h a c) := by
  intro x d q
  have := hz x d q
  rw [pd_up_n (by omega)]
  exact k x d q
/-! what a step keeps: every cell but those whose marks are in ts -/
def pd_kx (ts : List Nat) (h h' : pd_H) : Prop := ∀ (a : Nat) (c : pd_C), h a = some c → c.1 ∉ ts → h' a = some c
theorem pd_kx.rf {ts : List Nat} {h : pd_H} : pd_kx ts h h := fun _ _ q _ => q
theorem pd_kx.tr {ts : List Nat} {h1 h2 h3 : pd_H} (a : pd_kx ts h1 h2) (b : pd_kx ts h2 h3) : pd_kx ts h1 h3 := fun x c q n => b x c (a x c q n) n
theorem pd_kx.mono {ts us : List Nat} {h1 h2 : pd_H} (a : pd_kx ts h1 h2) (s : ∀ t ∈ ts, t ∈ us) : pd_kx us h1 h2 := fun x c q n => a x c q (fun z => n (s _ z))
theorem pd_kx.trs {ts us vs : List Nat} {h1 h2 h3 : pd_H} (a : pd_kx ts h1 h2) (b : pd_kx us h2 h3) (s : ∀ t ∈ ts, t ∈ vs) (r : ∀ t ∈ us, t ∈ vs) : pd_kx vs h1 h3 := (a.mono s).tr (b.mono r)
theorem pd_kx.le {h h' : pd_H} (a : pd_kx [] h h') : pd_le h h' := fun x c q => a x c q (List.not_mem_nil)
theorem pd_le.kx {ts : List Nat} {h h' : pd_H} (a : pd_le h h') : pd_kx ts h h' := fun x c q _ => a x c q
theorem pd_up_kx {h : pd_H} {a : Nat} {t : Nat} {x : (FieldType × vp_A) ⊕ (Nat × List Value)} {c : pd_C} (ho : h a = some (t, x)) : pd_kx [t] h (pd_up h a c) := by
  intro b d hb hn
  by_cases e : b = a
  · subst e
    rw [ho] at hb
    cases hb
    exact absurd (List.mem_singleton.mpr rfl) hn
  · rw [pd_up_n e]; exact hb
theorem pd_new_kx {ts : List Nat} {h : pd_H} {a : Nat} {c : pd_C} (ho : h a = none) : pd_kx ts h (pd_up h a c) := (pd_up_le ho).kx
/-- the ghost mark of a cell may be changed at any time -/
theorem pd_R.tag {G : pd_G} {U : State} {H : Heap} {h : pd_H} (r : pd_R G U H h) {a t t' : Nat} {x : (FieldType × vp_A) ⊕ (Nat × List Value)} (ho : h a = some (t, x)) : pd_R G U H (pd_up h a (t', x)) := by
  refine ⟨r.1, fun b d hb => ?_⟩
  by_cases e : b = a
  · subst e
    rw [pd_up_s] at hb
    cases hb
    have q := r.2 b (t, x) ho
    exact q
  · rw [pd_up_n e] at hb
    exact r.2 b d hb
/-! what a start gives of statics and constants -/
/-- a builder's private methods are found where they stand -/
def pd_Ps : List Cond := [Cond.selects "java/lang/StringBuilder" ⟨"java/lang/AbstractStringBuilder", "ensureCapacityInternal", "(I)V"⟩ ⟨"java/lang/AbstractStringBuilder", "ensureCapacityInternal", "(I)V"⟩, Cond.selects "java/lang/StringBuilder" ⟨"java/lang/AbstractStringBuilder", "newCapacity", "(I)I"⟩ ⟨"java/lang/AbstractStringBuilder", "newCapacity", "(I)I"⟩, Cond.selects "java/lang/StringBuilder" ⟨"java/lang/AbstractStringBuilder", "inflate", "()V"⟩ ⟨"java/lang/AbstractStringBuilder", "inflate", "()V"⟩, Cond.selects "java/lang/StringBuilder" ⟨"java/lang/AbstractStringBuilder", "appendNull", "()Ljava/lang/AbstractStringBuilder;"⟩ ⟨"java/lang/AbstractStringBuilder", "appendNull", "()Ljava/lang/AbstractStringBuilder;"⟩, Cond.selects "java/lang/StringBuilder" ⟨"java/lang/AbstractStringBuilder", "putStringAt", "(ILjava/lang/String;)V"⟩ ⟨"java/lang/AbstractStringBuilder", "putStringAt", "(ILjava/lang/String;)V"⟩, Cond.selects "java/lang/StringBuilder" ⟨"java/lang/AbstractStringBuilder", "inflateIfNeededFor", "(Ljava/lang/String;)V"⟩ ⟨"java/lang/AbstractStringBuilder", "inflateIfNeededFor", "(Ljava/lang/String;)V"⟩]
theorem pd_Ps_good : ∀ w ∈ pd_Ps, w.onTables = true ∧ (w.onTables && w.keeps) = true := by decide
abbrev pd_tx : Type := List Nat
/-- a String with the letters cs, its bytes too under the mark 0 -/
def pd_Str (h : pd_H) (a : Nat) (cs : List Nat) : Prop := ∃ (v : Nat) (f : Nat → Int32), h a = some (0, .inr (12, [.ref v, .int (nI 0)])) ∧ h v = some (0, .inl (.byte, cs.length, .inl f)) ∧ (∀ j, j < cs.length → f j = sb_b (cs.getD j 0)) ∧ (∀ c ∈ cs, c < 256) ∧ cs.length ≤ 60
/-- statics: class, name, descriptor, what they hold by the constants' addresses -/
def pd_Zs (ad : Nat → Nat) : List (String × String × String × Value) := [("java/lang/String", "COMPACT_STRINGS", "Z", .int (nI 1)), ("java/util/ArrayList", "DEFAULTCAPACITY_EMPTY_ELEMENTDATA", "[Ljava/lang/Object;", .ref (ad 0)), ("PolicyDesk$Verb", "ALL", "[LPolicyDesk$Verb;", .ref (ad 1)), ("PolicyDesk$1", "$SwitchMap$PolicyDesk$Verb", "[I", .ref (ad 2)), ("java/lang/Integer", "DigitOnes", "[B", .ref (ad 3)), ("java/lang/Integer", "DigitTens", "[B", .ref (ad 4)), ("PolicyDesk$Verb", "CLASS", "LPolicyDesk$Verb;", .ref (ad 10)), ("PolicyDesk$Verb", "INTERFACE", "LPolicyDesk$Verb;", .ref (ad 11)), ("PolicyDesk$Verb", "FIELD", "LPolicyDesk$Verb;", .ref (ad 12)), ("PolicyDesk$Verb", "METHOD", "LPolicyDesk$Verb;", .ref (ad 13)), ("PolicyDesk$Verb", "ALLOW", "LPolicyDesk$Verb;", .ref (ad 14)), ("PolicyDesk$Verb", "DENY", "LPolicyDesk$Verb;", .ref (ad 15)), ("PolicyDesk$Verb", "COST", "LPolicyDesk$Verb;", .ref (ad 16)), ("PolicyDesk$Verb", "SHIM", "LPolicyDesk$Verb;", .ref (ad 17)), ("PolicyDesk$Verb", "NEW", "LPolicyDesk$Verb;", .ref (ad 18)), ("PolicyDesk$Verb", "CAST", "LPolicyDesk$Verb;", .ref (ad 19)), ("PolicyDesk$Verb", "CATCH", "LPolicyDesk$Verb;", .ref (ad 20)), ("PolicyDesk$Verb", "GET", "LPolicyDesk$Verb;", .ref (ad 21)), ("PolicyDesk$Verb", "CALL", "LPolicyDesk$Verb;", .ref (ad 22))]
def pd_Ls : List (String × Nat × String × Nat) := [("PolicyDesk$Classes", 11, "Object", 40), ("PolicyDesk$Classes", 22, "Budget", 41), ("PolicyDesk$Line", 35, "", 42), ("java/lang/StringLatin1", 151, "", 43), ("java/lang/StringUTF16", 295, "", 44), ("PolicyDesk$Grammar", 58, ":", 45), ("PolicyDesk$Grammar", 92, "", 46), ("PolicyDesk$Grammar", 129, "IJFDZBCS", 47), ("PolicyDesk$Grammar", 131, "s", 48), ("PolicyDesk$Grammar", 133, "n", 49), ("PolicyDesk$Grammar", 135, "sn", 50), ("PolicyDesk$Grammar", 137, "ns", 51), ("PolicyDesk$Grammar", 106, "*", 52), ("PolicyDesk$Pattern", 59, "**", 53), ("PolicyDesk$Pattern", 61, "/**", 54), ("PolicyDesk$Pattern", 67, "/*", 55), ("PolicyDesk$Pattern", 69, "", 56), ("PolicyDesk", 222, "finalize", 57), ("PolicyDesk", 228, "()V", 58), ("PolicyDesk$Pattern", 43, "*", 59), ("PolicyDesk$Audit", 65, "unknown", 60), ("PolicyDesk$Audit", 67, "kind", 61), ("PolicyDesk$Audit", 69, "forbidden", 62), ("PolicyDesk$Audit", 71, "denied", 63), ("PolicyDesk$Audit", 73, "shim ", 64), ("PolicyDesk$Audit", 75, "ok ", 65), ("PolicyDesk$Verb", 100, "shim", 66), ("PolicyDesk$Verb", 97, "cost", 67), ("PolicyDesk$Verb", 112, "get", 68), ("PolicyDesk$Verb", 115, "call", 69), ("PolicyDesk$Verb", 91, "allow", 70), ("PolicyDesk$Verb", 94, "deny", 71), ("PolicyDesk$Verb", 103, "new", 72), ("PolicyDesk$Verb", 109, "catch", 73), ("PolicyDesk$Verb", 76, "class", 74), ("PolicyDesk$Verb", 82, "interface", 75), ("PolicyDesk$Verb", 85, "field", 76), ("PolicyDesk$Verb", 88, "method", 77), ("PolicyDesk$Verb", 106, "cast", 78)]
/-- the constants' texts, by their numbers -/
def pd_lit (j : Nat) : List Nat := ([[79, 98, 106, 101, 99, 116], [66, 117, 100, 103, 101, 116], [], [], [], [58], [], [73, 74, 70, 68, 90, 66, 67, 83], [115], [110], [115, 110], [110, 115], [42], [42, 42], [47, 42, 42], [47, 42], [], [102, 105, 110, 97, 108, 105, 122, 101], [40, 41, 86], [42], [117, 110, 107, 110, 111, 119, 110], [107, 105, 110, 100], [102, 111, 114, 98, 105, 100, 100, 101, 110], [100, 101, 110, 105, 101, 100], [115, 104, 105, 109, 32], [111, 107, 32], [115, 104, 105, 109], [99, 111, 115, 116], [103, 101, 116], [99, 97, 108, 108], [97, 108, 108, 111, 119], [100, 101, 110, 121], [110, 101, 119], [99, 97, 116, 99, 104], [99, 108, 97, 115, 115], [105, 110, 116, 101, 114, 102, 97, 99, 101], [102, 105, 101, 108, 100], [109, 101, 116, 104, 111, 100], [99, 97, 115, 116]] : List (List Nat)).getD j []
/-- which constant is a verb's word -/
def pd_vw (i : Nat) : Nat := ([34, 35, 36, 37, 30, 31, 27, 26, 32, 38, 33, 28, 29] : List Nat).getD i 0
def pd_map (i : Nat) : Nat := ([1, 2, 3, 4, 5, 6, 7, 8, 0, 0, 0, 9, 10] : List Nat).getD i 0
def pd_ones (i : Nat) : Int32 := ([48, 49, 50, 51, 52, 53, 54, 55, 56, 57, 48, 49, 50, 51, 52, 53, 54, 55, 56, 57, 48, 49, 50, 51, 52, 53, 54, 55, 56, 57, 48, 49, 50, 51, 52, 53, 54, 55, 56, 57, 48, 49, 50, 51, 52, 53, 54, 55, 56, 57, 48, 49, 50, 51, 52, 53, 54, 55, 56, 57, 48, 49, 50, 51, 52, 53, 54, 55, 56, 57, 48, 49, 50, 51, 52, 53, 54, 55, 56, 57, 48, 49, 50, 51, 52, 53, 54, 55, 56, 57, 48, 49, 50, 51, 52, 53, 54, 55, 56, 57] : List Int32).getD i 0
def pd_tens (i : Nat) : Int32 := ([48, 48, 48, 48, 48, 48, 48, 48, 48, 48, 49, 49, 49, 49, 49, 49, 49, 49, 49, 49, 50, 50, 50, 50, 50, 50, 50, 50, 50, 50, 51, 51, 51, 51, 51, 51, 51, 51, 51, 51, 52, 52, 52, 52, 52, 52, 52, 52, 52, 52, 53, 53, 53, 53, 53, 53, 53, 53, 53, 53, 54, 54, 54, 54, 54, 54, 54, 54, 54, 54, 55, 55, 55, 55, 55, 55, 55, 55, 55, 55, 56, 56, 56, 56, 56, 56, 56, 56, 56, 56, 57, 57, 57, 57, 57, 57, 57, 57, 57, 57] : List Int32).getD i 0
/-- what the constants' cells hold -/
def pd_Kf (G : pd_G) : Prop := (∀ j, j < 39 → pd_Str G.2.2.1 (G.2.2.2 (40 + j)) (pd_lit j)) ∧
  G.2.2.1 (G.2.2.2 0) = some (0, .inl (.object "java/lang/Object", 0, .inr (.inr (.inr (.inr (fun _ => none)))))) ∧
  G.2.2.1 (G.2.2.2 1) = some (0, .inl (.object "PolicyDesk$Verb", 13, .inr (.inr (.inr (.inr (fun i => some (G.2.2.2 (10 + i)))))))) ∧
  G.2.2.1 (G.2.2.2 2) = some (0, .inl (.int, 13, .inl (fun i => nI (pd_map i)))) ∧
  G.2.2.1 (G.2.2.2 3) = some (0, .inl (.byte, 100, .inl pd_ones)) ∧
  G.2.2.1 (G.2.2.2 4) = some (0, .inl (.byte, 100, .inl pd_tens)) ∧
  (∀ i j, i < 13 → j < 13 → G.2.2.2 (10 + i) = G.2.2.2 (10 + j) → i = j)
def pd_St (G : pd_G) (U : State) : Prop := (∀ q ∈ pd_Zs G.2.2.2, va_Z q.1 q.2.1 q.2.2.1 q.2.2.2 (fun q => G.2.1 ≤ q) U U.heap) ∧ (∀ q ∈ pd_Ls, vk_R q.1 q.2.1 q.2.2.1 (G.2.2.2 q.2.2.2) U) ∧
  (∀ i, i < 13 → va_O "PolicyDesk$Verb" (G.2.2.2 (10 + i)) (fun q => G.2.1 ≤ q) U U.heap ∧ va_OF "java/lang/Enum" "ordinal" "I" (.int (nI i)) (G.2.2.2 (10 + i)) (fun q => G.2.1 ≤ q) U U.heap ∧ va_OF "PolicyDesk$Verb" "word" "Ljava/lang/String;" (.ref (G.2.2.2 (40 + pd_vw i))) (G.2.2.2 (10 + i)) (fun q => G.2.1 ≤ q) U U.heap) ∧
  va_Zq "jdk/internal/util/Preconditions" "SIOOBE_FORMATTER" "Ljava/util/function/BiFunction;" (fun q => G.2.1 ≤ q) U U.heap ∧ pd_Kf G ∧ (∀ w ∈ pd_N, va_Nw w U) ∧ (∀ E : String, Cond.arrayOver (.object E) ∈ lw_tbl → va_AO E U) ∧ (∀ w ∈ pd_Ps, va_Nw w U) ∧ va_Mi "[Ljava/lang/Object;" (G.2.2.2 5) U
theorem pd_St.go {G : pd_G} {s U : State} (h : pd_St G s) (hq : ∀ q : Nat, q < s.heap.size → ¬ G.2.1 ≤ q → U.heap[q]? = s.heap[q]?) (hW : s.WarmedH U.vm) : pd_St G U := by
  obtain ⟨h1, h2, h3, h4, h5⟩ := h
  exact ⟨fun q hm => va_Z.moved hW.alike ((h1 q hm).kept hq), fun q hm => (h2 q hm).warm hW, fun i hi => ⟨va_O.moved hW.alike ((h3 i hi).1.kept hq), va_OF.moved hW.alike ((h3 i hi).2.1.kept hq), va_OF.moved hW.alike ((h3 i hi).2.2.kept hq)⟩, va_Zq.moved hW.alike (h4.kept hq), h5.1, fun w hm => pd_N_warm hm hW (h5.2.1 w hm), fun E hm => (h5.2.2.1 E hm).moved hW.alike, fun w hm => word_at hW (Or.inl (pd_Ps_good w hm).2) (h5.2.2.2.1 w hm), h5.2.2.2.2.moved hW.alike⟩
theorem pd_St.blind {G : pd_G} {U : State} {g : JFrame} {mk : MethodId} {a : Array Value} (h : pd_St G U) : pd_St G (U.calling g mk a) := by
  obtain ⟨h1, h2, h3, h4, h5⟩ := h
  have hv : U.vm.Alike (U.calling g mk a).vm := Vm.Alike.refl U.vm
  exact ⟨fun q hm => va_Z.moved hv (h1 q hm), fun q hm => (h2 q hm).same rfl, fun i hi => ⟨va_O.moved hv (h3 i hi).1, va_OF.moved hv (h3 i hi).2.1, va_OF.moved hv (h3 i hi).2.2⟩, va_Zq.moved hv h4, h5.1, fun w hm => va_Nw.same (u := U) (U := U.calling g mk a) (pd_N_on hm) rfl (h5.2.1 w hm), fun E hm => (h5.2.2.1 E hm).moved hv, fun w hm => va_Nw.same (u := U) (U := U.calling g mk a) (pd_Ps_good w hm).1 rfl (h5.2.2.2.1 w hm), va_Mi.moved hv h5.2.2.2.2⟩
/-! contracts -/
/-- what a method's start gives: the tables, the first address of ours, the constants (pd_St, its own part) -/
def pd_E (G : pd_G) (U : State) : Prop := va_K G.1 vwCl [] U ∧ G.2.1 ≤ U.heap.size ∧ (∀ (x : Nat) (d : pd_C), G.2.2.1 x = some d → x < G.2.1) ∧ pd_St G U
def pd_w (G : pd_G) (s : State) (H : Heap) (locs : List Loc) (h : pd_H) : Prop := pd_R G s H h ∧ pd_Kc G h ∧ va_S (fun q => G.2.1 ≤ q) s.heap H locs
def pd_P (G : pd_G) (h : pd_H) (As : List Value) : Array Value → State → Prop := va_Pc As (fun U => pd_E G U ∧ pd_R G U U.heap h ∧ pd_Kc G h)
def pd_Q {α : Type} (G : pd_G) (mk : α → Value) (post : α → pd_H → Prop) : Array Value → State → Outcome → State → Prop := fun _ st oc t => (∃ (r : α) (h' : pd_H), oc = .returned (some (mk r)) ∧ post r h' ∧ pd_R G t t.heap h' ∧ pd_Kc G h') ∧ va_F (fun q => G.2.1 ≤ q) st t
def pd_Qv (G : pd_G) (post : pd_H → Prop) : Array Value → State → Outcome → State → Prop := fun _ st oc t => (∃ h' : pd_H, oc = .returned none ∧ post h' ∧ pd_R G t t.heap h' ∧ pd_Kc G h') ∧ va_F (fun q => G.2.1 ≤ q) st t
/-- a contract at the abstract heap h and the arguments As: an answer 'mk r' and a heap h' with 'post r h'' -/
def pd_M {α : Type} (l : Launch) (y : MethodName) (b : ByteArray) (maxL : Nat) (ret : Option FieldType) (rm : Room) (G : pd_G) (h : pd_H) (As : List Value) (mk : α → Value) (post : α → pd_H → Prop) : Prop :=
  Met l y (.code y b maxL ret :: pd_T) rm (pd_P G h As) (pd_Q G mk post) rm.cells rm.slots (fun q => G.2.1 ≤ q)
def pd_Mv (l : Launch) (y : MethodName) (b : ByteArray) (maxL : Nat) (rm : Room) (G : pd_G) (h : pd_H) (As : List Value) (post : pd_H → Prop) : Prop :=
  Met l y (.code y b maxL none :: pd_T) rm (pd_P G h As) (pd_Qv G post) rm.cells rm.slots (fun q => G.2.1 ≤ q)
/-- the fixed part of a walk -/
def pd_B (p : Program) (s : State) (m : MethodId) (args : Array Value) (meth : Method) (c : Code) (G : pd_G) (own : String) (cc : ByteArray) (nL : Nat) (ret : Option FieldType) : Prop :=
  p.tables.exec = Jvm.exec ∧ c.code = cc ∧ meth.sig.returnType = ret ∧ c.maxLocals = nL ∧ s.vm.findClass own = some m.cls ∧ (∀ w ∈ pd_T, w.before args s = true) ∧ meth.locks = false ∧ pd_E G s
theorem pd_B.nw {p : Program} {s : State} {m : MethodId} {args : Array Value} {meth : Method} {c : Code} {G : pd_G} {own : String} {cc : ByteArray} {nL : Nat} {ret : Option FieldType} (X : pd_B p s m args meth c G own cc nL ret) {w : Cond} (h : w ∈ pd_N) : w.before args s = true := va_Nw.use (pd_N_on h) (X.2.2.2.2.2.2.2.2.2.2.2.2.2.2.2.1 w h)
theorem pd_B.ao {p : Program} {s : State} {m : MethodId} {args : Array Value} {meth : Method} {c : Code} {G : pd_G} {own : String} {cc : ByteArray} {nL : Nat} {ret : Option FieldType} (X : pd_B p s m args meth c G own cc nL ret) {E : String} (h : Cond.arrayOver (.object E) ∈ lw_tbl) : (Cond.arrayOver (.object E)).before args s = true := va_AO.use (X.2.2.2.2.2.2.2.2.2.2.2.2.2.2.2.2.1 E h)
theorem pd_B.px {p : Program} {s : State} {m : MethodId} {args : Array Value} {meth : Method} {c : Code} {G : pd_G} {own : String} {cc : ByteArray} {nL : Nat} {ret : Option FieldType} (X : pd_B p s m args meth c G own cc nL ret) {w : Cond} (h : w ∈ pd_Ps) : w.before args s = true := va_Nw.use (pd_Ps_good w h).1 (X.2.2.2.2.2.2.2.2.2.2.2.2.2.2.2.2.2.1 w h)
theorem pd_B.mi {p : Program} {s : State} {m : MethodId} {args : Array Value} {meth : Method} {c : Code} {G : pd_G} {own : String} {cc : ByteArray} {nL : Nat} {ret : Option FieldType} (X : pd_B p s m args meth c G own cc nL ret) : va_Mi "[Ljava/lang/Object;" (G.2.2.2 5) s := X.2.2.2.2.2.2.2.2.2.2.2.2.2.2.2.2.2.2
theorem pd_P.blind {G : pd_G} {h : pd_H} {As : List Value} : FrameBlind (pd_P G h As) := by
  intro a U g mk q
  obtain ⟨q0, qE, qR, qK⟩ := q
  exact ⟨q0, ⟨va_K.moved (u := U) (U := U.calling g mk a) (Vm.Alike.refl U.vm) qE.1, qE.2.1, qE.2.2.1, pd_St.blind qE.2.2.2⟩, pd_R.moved (u := U) (U := U.calling g mk a) (Vm.Alike.refl U.vm) qR, qK⟩
theorem pd_E.go {G : pd_G} {s U : State} {H : Heap} {locs : List Loc} (E : pd_E G s) (hS : va_S (fun q => G.2.1 ≤ q) s.heap H locs) (hU : U.heap = H) (hW : s.WarmedH U.vm) : pd_E G U := by
  subst hU
  exact ⟨va_K.moved hW.alike E.1, Nat.le_trans E.2.1 hS.1, E.2.2.1, pd_St.go E.2.2.2 hS.2.1 hW⟩
section PDM
variable {l : Launch} {y : MethodName} {b : ByteArray} {maxL : Nat} {ret : Option FieldType} {rm : Room} {G : pd_G} {h : pd_H} {As : List Value}
theorem pd_M.of {α : Type} {mk : α → Value} {post : α → pd_H → Prop} (hy : plainName y.cls = true) (hn : (lg_sl As).length ≤ maxL)
    (body : ∀ (p : Program) (e : Env) (s : State) (m : MethodId) (below : List Frame) (meth : Method) (c : Code), pd_B p s m As.toArray meth c G y.cls b maxL ret → meth.name = y.name → pd_w G s s.heap [] h → ∀ ls : Array Slot, lv_has ls maxL (lv_args 0 As) →
      W p l e rm s m As.toArray below meth c s.heap [] 0 0 (MQ below (pd_Q G mk post) As.toArray s rm.cells rm.slots (fun q => G.2.1 ≤ q)) (F0 m 0 ls [])) : pd_M l y b maxL ret rm G h As mk post := by
  refine Met.ofW (cc := b) (maxL := maxL) (ret := ret) hy rfl ?_
  intro p e s m args below meth c s₁ B hml hv
  obtain ⟨rfl, hE, hR, hK⟩ := hv
  have hts := atoms_spec (ws := .code y b maxL ret :: pd_T) B.pre
  have hl := lv_entry As (n := maxL) hn
  rw [lg_entry_eq]
  exact body p e s m below meth c ⟨B.exec, B.bytes, B.returns, hml, findClass_of_methodNamed B.named, fun w hw => hts w (List.mem_cons_of_mem _ hw), B.notSynchronized, hE⟩ (name_of_methodNamed B.named B.method).1 ⟨hR, hK, va_S.rf⟩ _ hl
theorem pd_Mv.of {post : pd_H → Prop} (hy : plainName y.cls = true) (hn : (lg_sl As).length ≤ maxL)
    (body : ∀ (p : Program) (e : Env) (s : State) (m : MethodId) (below : List Frame) (meth : Method) (c : Code), pd_B p s m As.toArray meth c G y.cls b maxL none → meth.name = y.name → pd_w G s s.heap [] h → ∀ ls : Array Slot, lv_has ls maxL (lv_args 0 As) →
      W p l e rm s m As.toArray below meth c s.heap [] 0 0 (MQ below (pd_Qv G post) As.toArray s rm.cells rm.slots (fun q => G.2.1 ≤ q)) (F0 m 0 ls [])) : pd_Mv l y b maxL rm G h As post := by
  refine Met.ofW (cc := b) (maxL := maxL) (ret := none) hy rfl ?_
  intro p e s m args below meth c s₁ B hml hv
  obtain ⟨rfl, hE, hR, hK⟩ := hv
  have hts := atoms_spec (ws := .code y b maxL none :: pd_T) B.pre
  have hl := lv_entry As (n := maxL) hn
  rw [lg_entry_eq]
  exact body p e s m below meth c ⟨B.exec, B.bytes, B.returns, hml, findClass_of_methodNamed B.named, fun w hw => hts w (List.mem_cons_of_mem _ hw), B.notSynchronized, hE⟩ (name_of_methodNamed B.named B.method).1 ⟨hR, hK, va_S.rf⟩ _ hl
end PDM
section PDW
variable {p : Program} {l : Launch} {e : Env} {R : Room} {s : State} {m : MethodId} {args : Array Value} {below : List Frame} {meth : Method} {c : Code} {H : Heap} {locs : List Loc} {cells slots : Nat} {Q : State → Prop}
variable {cc : ByteArray} {pc nL : Nat} {ls : Array Slot} {rest st0 : List Value} {G : pd_G} {own : String} {ret : Option FieldType} {h : pd_H} {mc ms : Nat}
/-! the ends -/
theorem pd_iret {post : Int32 → pd_H → Prop} {v : Int32} (X : pd_B p s m args meth c G own cc nL (some .int)) (w : pd_w G s H locs h) (hp : post v h) (hc : cells ≤ mc) (hs : slots ≤ ms) (hdg : decode cc pc = .ok (.ireturn, 1)) :
    W p l e R s m args below meth c H locs cells slots (MQ below (pd_Q G Value.int post) args s mc ms (fun q => G.2.1 ≤ q)) (F0 m pc ls [.int v]) := by
  obtain ⟨hx, hb, hr, hml, hown, hts, hlocks, hE⟩ := X
  refine W.widen hc hs ?_
  exact W.iret hx hb hr (fun t ht hW => ⟨⟨v, h, rfl, hp, by rw [ht]; exact w.1.moved hW.alike, w.2.1⟩, w.2.2.F ht⟩) w.2.2.2.2 hdg hlocks
def pd_b (b : Bool) : Int32 := if b then 1 else 0
abbrev pd_vb (b : Bool) : Value := .int (pd_b b)
theorem pd_zret {post : Bool → pd_H → Prop} {v : Bool} (X : pd_B p s m args meth c G own cc nL (some .boolean)) (w : pd_w G s H locs h) (hp : post v h) (hc : cells ≤ mc) (hs : slots ≤ ms) (hdg : decode cc pc = .ok (.ireturn, 1)) :
    W p l e R s m args below meth c H locs cells slots (MQ below (pd_Q G pd_vb post) args s mc ms (fun q => G.2.1 ≤ q)) (F0 m pc ls [.int (pd_b v)]) := by
  obtain ⟨hx, hb, hr, hml, hown, hts, hlocks, hE⟩ := X
  refine W.widen hc hs ?_
  exact W.zret hx hb hr (by cases v <;> rfl) (fun t ht hW => ⟨⟨v, h, rfl, hp, by rw [ht]; exact w.1.moved hW.alike, w.2.1⟩, w.2.2.F ht⟩) w.2.2.2.2 hdg hlocks
theorem pd_cret {post : Int32 → pd_H → Prop} {v : Int32} {ty : FieldType} (X : pd_B p s m args meth c G own cc nL (some ty)) (hn : narrow ty (.int v) = .int v) (w : pd_w G s H locs h) (hp : post v h) (hc : cells ≤ mc) (hs : slots ≤ ms) (hdg : decode cc pc = .ok (.ireturn, 1)) :
    W p l e R s m args below meth c H locs cells slots (MQ below (pd_Q G Value.int post) args s mc ms (fun q => G.2.1 ≤ q)) (F0 m pc ls [.int v]) := by
  obtain ⟨hx, hb, hr, hml, hown, hts, hlocks, hE⟩ := X
  refine W.widen hc hs ?_
  exact W.zret hx hb hr hn (fun t ht hW => ⟨⟨v, h, rfl, hp, by rw [ht]; exact w.1.moved hW.alike, w.2.1⟩, w.2.2.F ht⟩) w.2.2.2.2 hdg hlocks
theorem pd_lret {post : Int64 → pd_H → Prop} {v : Int64} (X : pd_B p s m args meth c G own cc nL (some .long)) (w : pd_w G s H locs h) (hp : post v h) (hc : cells ≤ mc) (hs : slots ≤ ms) (hdg : decode cc pc = .ok (.lreturn, 1)) :
    W p l e R s m args below meth c H locs cells slots (MQ below (pd_Q G Value.long post) args s mc ms (fun q => G.2.1 ≤ q)) (F0 m pc ls [.long v]) := by
  obtain ⟨hx, hb, hr, hml, hown, hts, hlocks, hE⟩ := X
  refine W.widen hc hs ?_
  exact W.lret hx hb hr (fun t ht hW => ⟨⟨v, h, rfl, hp, by rw [ht]; exact w.1.moved hW.alike, w.2.1⟩, w.2.2.F ht⟩) w.2.2.2.2 hdg hlocks
theorem pd_vret {post : pd_H → Prop} (X : pd_B p s m args meth c G own cc nL none) (w : pd_w G s H locs h) (hp : post h) (hc : cells ≤ mc) (hs : slots ≤ ms) (hdg : decode cc pc = .ok (.return_, 1)) :
    W p l e R s m args below meth c H locs cells slots (MQ below (pd_Qv G post) args s mc ms (fun q => G.2.1 ≤ q)) (F0 m pc ls []) := by
  obtain ⟨hx, hb, hr, hml, hown, hts, hlocks, hE⟩ := X
  refine W.widen hc hs ?_
  exact W.vret hx hb hr (fun t ht hW => ⟨⟨h, rfl, hp, by rw [ht]; exact w.1.moved hW.alike, w.2.1⟩, w.2.2.F ht⟩) w.2.2.2.2 hdg hlocks
theorem pd_aret {post : Nat → pd_H → Prop} {v : Nat} {rt : FieldType} (X : pd_B p s m args meth c G own cc nL (some rt)) (hrt : (∃ n, rt = .object n) ∨ ∃ t, rt = .array t) (w : pd_w G s H locs h) (hp : post v h) (hc : cells ≤ mc) (hs : slots ≤ ms) (hdg : decode cc pc = .ok (.areturn, 1)) :
    W p l e R s m args below meth c H locs cells slots (MQ below (pd_Q G Value.ref post) args s mc ms (fun q => G.2.1 ≤ q)) (F0 m pc ls [.ref v]) := by
  obtain ⟨hx, hb, hr, hml, hown, hts, hlocks, hE⟩ := X
  refine W.widen hc hs ?_
  exact W.aret hx hb hr hrt (Or.inr ⟨_, rfl⟩) (fun t ht hW => ⟨⟨v, h, rfl, hp, by rw [ht]; exact w.1.moved hW.alike, w.2.1⟩, w.2.2.F ht⟩) w.2.2.2.2 hdg hlocks
/-- an answer that may be null -/
theorem pd_oret {post : Option Nat → pd_H → Prop} {v : Option Nat} {rt : FieldType} (X : pd_B p s m args meth c G own cc nL (some rt)) (hrt : (∃ n, rt = .object n) ∨ ∃ t, rt = .array t) (w : pd_w G s H locs h) (hp : post v h) (hc : cells ≤ mc) (hs : slots ≤ ms) (hdg : decode cc pc = .ok (.areturn, 1)) :
    W p l e R s m args below meth c H locs cells slots (MQ below (pd_Q G va_rf post) args s mc ms (fun q => G.2.1 ≤ q)) (F0 m pc ls [va_rf v]) := by
  obtain ⟨hx, hb, hr, hml, hown, hts, hlocks, hE⟩ := X
  refine W.widen hc hs ?_
  exact W.aret hx hb hr hrt (va_rf_or _) (fun t ht hW => ⟨⟨v, h, rfl, hp, by rw [ht]; exact w.1.moved hW.alike, w.2.1⟩, w.2.2.F ht⟩) w.2.2.2.2 hdg hlocks
/-! calls -/
theorem pd_run {α : Type} {mk : α → Value} {post : α → pd_H → Prop} {a : Array Value} (hr : va_Run p l e R s m args below meth c H locs cells slots mc ms (F0 m pc ls st0) rest (pd_Q G mk post a) (fun q => G.2.1 ≤ q)) (w : pd_w G s H locs h)
    (kk : ∀ (r : α) (h' : pd_H) (H1 : Heap) (locs1 : List Loc), post r h' → pd_w G s H1 locs1 h' → W p l e R s m args below meth c H1 locs1 (cells + mc) (slots + ms) Q (F0 m (pc + 3) ls (mk r :: rest))) : W p l e R s m args below meth c H locs cells slots Q (F0 m pc ls st0) := by
  intro T hT X
  obtain ⟨v, st₀, t, T', L, h0, X', hL, e1, e2, ⟨⟨r, h', hv, hp, hR, hK⟩, hz, hk⟩, st⟩ := hr T hT X
  cases hv
  rw [h0] at hz hk
  have hvm : s.vm.Alike t.vm := by rw [← e2]; exact X'.warmed.alike
  obtain ⟨t2, a1, b1⟩ := kk r h' T'.heap (locs ++ L) hp ⟨by rw [e1]; exact hR.moved hvm.symm, hK, by rw [e1]; exact Nat.le_trans w.2.2.1 hz, fun q h1 h2 => by rw [e1, hk q (Nat.lt_of_lt_of_le h1 w.2.2.1) h2]; exact w.2.2.2.1 q h1 h2, fun q hq => by
      rcases List.mem_append.mp hq with h | h
      · exact w.2.2.2.2 q h
      · exact hL q h⟩ T' rfl X'
  exact ⟨t2, st t2 a1, b1⟩
theorem pd_runv {post : pd_H → Prop} {a : Array Value} (hr : va_Run p l e R s m args below meth c H locs cells slots mc ms (F0 m pc ls st0) rest (pd_Qv G post a) (fun q => G.2.1 ≤ q)) (w : pd_w G s H locs h)
    (kk : ∀ (h' : pd_H) (H1 : Heap) (locs1 : List Loc), post h' → pd_w G s H1 locs1 h' → W p l e R s m args below meth c H1 locs1 (cells + mc) (slots + ms) Q (F0 m (pc + 3) ls rest)) : W p l e R s m args below meth c H locs cells slots Q (F0 m pc ls st0) := by
  intro T hT X
  obtain ⟨v, st₀, t, T', L, h0, X', hL, e1, e2, ⟨⟨h', hv, hp, hR, hK⟩, hz, hk⟩, st⟩ := hr T hT X
  cases hv
  rw [h0] at hz hk
  have hvm : s.vm.Alike t.vm := by rw [← e2]; exact X'.warmed.alike
  obtain ⟨t2, a1, b1⟩ := kk h' T'.heap (locs ++ L) hp ⟨by rw [e1]; exact hR.moved hvm.symm, hK, by rw [e1]; exact Nat.le_trans w.2.2.1 hz, fun q h1 h2 => by rw [e1, hk q (Nat.lt_of_lt_of_le h1 w.2.2.1) h2]; exact w.2.2.2.1 q h1 h2, fun q hq => by
      rcases List.mem_append.mp hq with h | h
      · exact w.2.2.2.2 q h
      · exact hL q h⟩ T' rfl X'
  exact ⟨t2, st t2 a1, b1⟩
/-- what the tables say of a callee -/
def pd_ok (y : MethodName) (b : ByteArray) (maxL : Nat) (ret : Option FieldType) (n : Nat) : Prop := Cond.code y b maxL ret ∈ pd_T ∧ Cond.initialized y.cls ∈ pd_T ∧ (y.cls ≠ "java/lang/invoke/MethodHandle" ∧ y.cls ≠ "java/lang/invoke/VarHandle") ∧ (parseMethodDescriptor y.desc).map (fun d => d.parameters.length) = some n
variable {y : MethodName} {b : ByteArray} {maxL n index : Nat} {rt : Option FieldType} {rm : Room} {As : List Value} {a : Nat}
theorem pd_callB (X : pd_B p s m args meth c G own cc nL ret) (ok : pd_ok y b maxL rt n) (hl : Cond.methodLink own index y ∈ pd_T) (hR : rm.frames + 1 ≤ R.frames ∧ 8 + (maxL + 11) + rm.locals ≤ R.locals) :
    CallB R s args own index y b maxL rt (.code y b maxL rt :: pd_T) rm rm.cells rm.slots n := by
  obtain ⟨hx, hb, hr, hml, hown, hts, hlocks, hE⟩ := X
  obtain ⟨k1, k2, k3, k4⟩ := ok
  refine ⟨rfl, rfl, hR.1, hR.2, fun w hw a' U hW => ?_, List.mem_cons_self, hts _ k1, hts _ k2, k3, fun sig hs => ?_, hts _ hl⟩
  · rcases List.mem_cons.mp hw with e | e
    · rw [e]; exact word_at hW (pd_T_good _ k1) (hts _ k1)
    · exact word_at hW (pd_T_good _ e) (hts _ e)
  · rw [hs] at k4
    exact (Option.some.inj k4).symm
theorem pd_callN {host : String} (X : pd_B p s m args meth c G own cc nL ret) (ok : pd_ok y b maxL rt n) (hl : Cond.methodLinkNest own index y host ∈ pd_N) (hR : rm.frames + 1 ≤ R.frames ∧ 8 + (maxL + 11) + rm.locals ≤ R.locals) :
    va_CN R s args own index y host b maxL rt (.code y b maxL rt :: pd_T) rm rm.cells rm.slots n := by
  have hnest := X.nw hl
  obtain ⟨hx, hb, hr, hml, hown, hts, hlocks, hE⟩ := X
  obtain ⟨k1, k2, k3, k4⟩ := ok
  refine ⟨⟨rfl, rfl, hR.1, hR.2, fun w hw a' U hW => ?_, List.mem_cons_self⟩, hts _ k1, hts _ k2, k3, fun sig hs => ?_, hnest⟩
  · rcases List.mem_cons.mp hw with e | e
    · rw [e]; exact word_at hW (pd_T_good _ k1) (hts _ k1)
    · exact word_at hW (pd_T_good _ e) (hts _ e)
  · rw [hs] at k4
    exact (Option.some.inj k4).symm
theorem pd_pre (X : pd_B p s m args meth c G own cc nL ret) (w : pd_w G s H locs h) : PreS s H (pd_P G h As) As :=
  ⟨pd_P.blind, fun U hU hW => ⟨rfl, X.2.2.2.2.2.2.2.go w.2.2 hU hW, by rw [hU]; exact w.1.moved hW.alike, w.2.1⟩⟩
theorem pd_fix (X : pd_B p s m args meth c G own cc nL ret) : CallFix p m c cc nL s args pd_T own := ⟨X.1, X.2.1, X.2.2.2.1, X.2.2.2.2.1, X.2.2.2.2.2.1⟩
theorem pd_recv {tg ci : Nat} {fs : List Value} {r : vw_C} (X : pd_B p s m args meth c G own cc nL ret) (w : pd_w G s H locs h) (ho : h a = some (tg, .inr (ci, fs))) (hc : vwCl[ci]? = some r) : ∃ cell : Cell, H[a]? = some cell ∧ cell.vm.isStatics = false ∧ s.vm.findClass r.1 = some cell.cls := by
  obtain ⟨r', cell, h1, h2, h3, h4, -⟩ := (w.1.2 a _ ho).1
  exact ⟨cell, h2, h4, by rw [h3]; exact (X.2.2.2.2.2.2.2.1.1 ci r hc).2.1⟩
theorem pd_preV {tg ci : Nat} {fs : List Value} {r : vw_C} (X : pd_B p s m args meth c G own cc nL ret) (w : pd_w G s H locs h) (ho : h a = some (tg, .inr (ci, fs))) (hc : vwCl[ci]? = some r) : PreV s H r.1 a (pd_P G h (.ref a :: As)) As :=
  ⟨pd_P.blind, pd_recv X w ho hc, (pd_pre (As := .ref a :: As) X w).2⟩
theorem pd_cS {α : Type} {mk : α → Value} {post : α → pd_H → Prop} (X : pd_B p s m args meth c G own cc nL ret) (w : pd_w G s H locs h) (hM : pd_M l y b maxL rt rm G h As mk post) (ok : pd_ok y b maxL rt n) (hst : Cond.static y ∈ pd_T) (hl : Cond.methodLink own index y ∈ pd_T) (hR : rm.frames + 1 ≤ R.frames ∧ 8 + (maxL + 11) + rm.locals ≤ R.locals)
    (hn : As.length = n) (hsz : ls.size = nL) (hstack : st0 = As.reverse ++ rest) (hW : (rest.map fun v => v.category).sum ≤ 8) (hdg : decode cc pc = .ok (.invokestatic index, 3)) (hf : cells + rm.cells ≤ R.cells ∧ slots + rm.slots ≤ R.slots)
    (kk : ∀ (r : α) (h' : pd_H) (H1 : Heap) (locs1 : List Loc), post r h' → pd_w G s H1 locs1 h' → W p l e R s m args below meth c H1 locs1 (cells + rm.cells) (slots + rm.slots) Q (F0 m (pc + 3) ls (mk r :: rest))) : W p l e R s m args below meth c H locs cells slots Q (F0 m pc ls st0) :=
  pd_run (va_runS (pd_fix X) hM ⟨pd_callB X ok hl hR, X.2.2.2.2.2.1 _ hst⟩ (pd_pre X w) rfl hn hsz hstack (lv_room hW) hdg hf) w kk
theorem pd_cSv {post : pd_H → Prop} (X : pd_B p s m args meth c G own cc nL ret) (w : pd_w G s H locs h) (hM : pd_Mv l y b maxL rm G h As post) (ok : pd_ok y b maxL none n) (hst : Cond.static y ∈ pd_T) (hl : Cond.methodLink own index y ∈ pd_T) (hR : rm.frames + 1 ≤ R.frames ∧ 8 + (maxL + 11) + rm.locals ≤ R.locals)
    (hn : As.length = n) (hsz : ls.size = nL) (hstack : st0 = As.reverse ++ rest) (hW : (rest.map fun v => v.category).sum ≤ 8) (hdg : decode cc pc = .ok (.invokestatic index, 3)) (hf : cells + rm.cells ≤ R.cells ∧ slots + rm.slots ≤ R.slots)
    (kk : ∀ (h' : pd_H) (H1 : Heap) (locs1 : List Loc), post h' → pd_w G s H1 locs1 h' → W p l e R s m args below meth c H1 locs1 (cells + rm.cells) (slots + rm.slots) Q (F0 m (pc + 3) ls rest)) : W p l e R s m args below meth c H locs cells slots Q (F0 m pc ls st0) :=
  pd_runv (va_runS (pd_fix X) hM ⟨pd_callB X ok hl hR, X.2.2.2.2.2.1 _ hst⟩ (pd_pre X w) rfl hn hsz hstack (lv_room hW) hdg hf) w kk
theorem pd_cSN {host : String} {α : Type} {mk : α → Value} {post : α → pd_H → Prop} (X : pd_B p s m args meth c G own cc nL ret) (w : pd_w G s H locs h) (hM : pd_M l y b maxL rt rm G h As mk post) (ok : pd_ok y b maxL rt n) (hst : Cond.static y ∈ pd_T) (hl : Cond.methodLinkNest own index y host ∈ pd_N) (hR : rm.frames + 1 ≤ R.frames ∧ 8 + (maxL + 11) + rm.locals ≤ R.locals)
    (hn : As.length = n) (hsz : ls.size = nL) (hstack : st0 = As.reverse ++ rest) (hW : (rest.map fun v => v.category).sum ≤ 8) (hdg : decode cc pc = .ok (.invokestatic index, 3)) (hf : cells + rm.cells ≤ R.cells ∧ slots + rm.slots ≤ R.slots)
    (kk : ∀ (r : α) (h' : pd_H) (H1 : Heap) (locs1 : List Loc), post r h' → pd_w G s H1 locs1 h' → W p l e R s m args below meth c H1 locs1 (cells + rm.cells) (slots + rm.slots) Q (F0 m (pc + 3) ls (mk r :: rest))) : W p l e R s m args below meth c H locs cells slots Q (F0 m pc ls st0) :=
  pd_run (va_runSN (pd_fix X) hM ⟨pd_callN X ok hl hR, X.2.2.2.2.2.1 _ hst, trivial⟩ (pd_pre X w) rfl hn hsz hstack (lv_room hW) hdg hf) w kk
/-- a constructor, or a private or super method by invokespecial: constructors here -/
theorem pd_cI {post : pd_H → Prop} (X : pd_B p s m args meth c G own cc nL ret) (w : pd_w G s H locs h) (hM : pd_Mv l y b maxL rm G h (.ref a :: As) post) (ok : pd_ok y b maxL none n) (hy : y.name = "<init>") (hst : Cond.instanceMethod y ∈ pd_T) (hl : Cond.methodLink own index y ∈ pd_T) (hR : rm.frames + 1 ≤ R.frames ∧ 8 + (maxL + 11) + rm.locals ≤ R.locals)
    (hn : As.length = n) (hsz : ls.size = nL) (hstack : st0 = As.reverse ++ .ref a :: rest) (hW : (rest.map fun v => v.category).sum ≤ 8) (hdg : decode cc pc = .ok (.invokespecial index, 3)) (hf : cells + rm.cells ≤ R.cells ∧ slots + rm.slots ≤ R.slots)
    (kk : ∀ (h' : pd_H) (H1 : Heap) (locs1 : List Loc), post h' → pd_w G s H1 locs1 h' → W p l e R s m args below meth c H1 locs1 (cells + rm.cells) (slots + rm.slots) Q (F0 m (pc + 3) ls rest)) : W p l e R s m args below meth c H locs cells slots Q (F0 m pc ls st0) :=
  pd_runv (va_runI (pd_fix X) hM ⟨pd_callB X ok hl hR, hy, X.2.2.2.2.2.1 _ hst⟩ (pd_pre (As := .ref a :: As) X w) rfl hn hsz hstack (lv_room hW) hdg hf) w kk
theorem pd_cIN {host : String} {post : pd_H → Prop} (X : pd_B p s m args meth c G own cc nL ret) (w : pd_w G s H locs h) (hM : pd_Mv l y b maxL rm G h (.ref a :: As) post) (ok : pd_ok y b maxL none n) (hy : y.name = "<init>") (hst : Cond.instanceMethod y ∈ pd_T) (hl : Cond.methodLinkNest own index y host ∈ pd_N) (hR : rm.frames + 1 ≤ R.frames ∧ 8 + (maxL + 11) + rm.locals ≤ R.locals)
    (hn : As.length = n) (hsz : ls.size = nL) (hstack : st0 = As.reverse ++ .ref a :: rest) (hW : (rest.map fun v => v.category).sum ≤ 8) (hdg : decode cc pc = .ok (.invokespecial index, 3)) (hf : cells + rm.cells ≤ R.cells ∧ slots + rm.slots ≤ R.slots)
    (kk : ∀ (h' : pd_H) (H1 : Heap) (locs1 : List Loc), post h' → pd_w G s H1 locs1 h' → W p l e R s m args below meth c H1 locs1 (cells + rm.cells) (slots + rm.slots) Q (F0 m (pc + 3) ls rest)) : W p l e R s m args below meth c H locs cells slots Q (F0 m pc ls st0) :=
  pd_runv (va_runIN (pd_fix X) hM ⟨pd_callN X ok hl hR, hy, X.2.2.2.2.2.1 _ hst⟩ (pd_pre (As := .ref a :: As) X w) rfl hn hsz hstack (lv_room hW) hdg hf) w kk
theorem pd_cV {α : Type} {mk : α → Value} {post : α → pd_H → Prop} {tg ci : Nat} {fs : List Value} {r0 : vw_C} (X : pd_B p s m args meth c G own cc nL ret) (w : pd_w G s H locs h) (ho : h a = some (tg, .inr (ci, fs))) (hc : vwCl[ci]? = some r0) (hM : pd_M l y b maxL rt rm G h (.ref a :: As) mk post) (ok : pd_ok y b maxL rt n) (hst : Cond.instanceMethod y ∈ pd_T ∧ Cond.selects r0.1 y y ∈ pd_T) (hl : Cond.methodLink own index y ∈ pd_T) (hR : rm.frames + 1 ≤ R.frames ∧ 8 + (maxL + 11) + rm.locals ≤ R.locals)
    (hn : As.length = n) (hsz : ls.size = nL) (hstack : st0 = As.reverse ++ .ref a :: rest) (hW : (rest.map fun v => v.category).sum ≤ 8) (hdg : decode cc pc = .ok (.invokevirtual index, 3)) (hf : cells + rm.cells ≤ R.cells ∧ slots + rm.slots ≤ R.slots)
    (kk : ∀ (r : α) (h' : pd_H) (H1 : Heap) (locs1 : List Loc), post r h' → pd_w G s H1 locs1 h' → W p l e R s m args below meth c H1 locs1 (cells + rm.cells) (slots + rm.slots) Q (F0 m (pc + 3) ls (mk r :: rest))) : W p l e R s m args below meth c H locs cells slots Q (F0 m pc ls st0) :=
  pd_run (va_runV (C := r0.1) (pd_fix X) hM ⟨pd_callB X ok hl hR, X.2.2.2.2.2.1 _ hst.1, X.2.2.2.2.2.1 _ hst.2⟩ (pd_preV X w ho hc) rfl hn hsz hstack (lv_room hW) hdg hf) w kk
theorem pd_cVv {post : pd_H → Prop} {tg ci : Nat} {fs : List Value} {r0 : vw_C} (X : pd_B p s m args meth c G own cc nL ret) (w : pd_w G s H locs h) (ho : h a = some (tg, .inr (ci, fs))) (hc : vwCl[ci]? = some r0) (hM : pd_Mv l y b maxL rm G h (.ref a :: As) post) (ok : pd_ok y b maxL none n) (hst : Cond.instanceMethod y ∈ pd_T ∧ Cond.selects r0.1 y y ∈ pd_T) (hl : Cond.methodLink own index y ∈ pd_T) (hR : rm.frames + 1 ≤ R.frames ∧ 8 + (maxL + 11) + rm.locals ≤ R.locals)
    (hn : As.length = n) (hsz : ls.size = nL) (hstack : st0 = As.reverse ++ .ref a :: rest) (hW : (rest.map fun v => v.category).sum ≤ 8) (hdg : decode cc pc = .ok (.invokevirtual index, 3)) (hf : cells + rm.cells ≤ R.cells ∧ slots + rm.slots ≤ R.slots)
    (kk : ∀ (h' : pd_H) (H1 : Heap) (locs1 : List Loc), post h' → pd_w G s H1 locs1 h' → W p l e R s m args below meth c H1 locs1 (cells + rm.cells) (slots + rm.slots) Q (F0 m (pc + 3) ls rest)) : W p l e R s m args below meth c H locs cells slots Q (F0 m pc ls st0) :=
  pd_runv (va_runV (C := r0.1) (pd_fix X) hM ⟨pd_callB X ok hl hR, X.2.2.2.2.2.1 _ hst.1, X.2.2.2.2.2.1 _ hst.2⟩ (pd_preV X w ho hc) rfl hn hsz hstack (lv_room hW) hdg hf) w kk
theorem pd_cVN {host : String} {α : Type} {mk : α → Value} {post : α → pd_H → Prop} {tg ci : Nat} {fs : List Value} {r0 : vw_C} (X : pd_B p s m args meth c G own cc nL ret) (w : pd_w G s H locs h) (ho : h a = some (tg, .inr (ci, fs))) (hc : vwCl[ci]? = some r0) (hM : pd_M l y b maxL rt rm G h (.ref a :: As) mk post) (ok : pd_ok y b maxL rt n) (hst : Cond.instanceMethod y ∈ pd_T ∧ Cond.selects r0.1 y y ∈ pd_T) (hl : Cond.methodLinkNest own index y host ∈ pd_N) (hR : rm.frames + 1 ≤ R.frames ∧ 8 + (maxL + 11) + rm.locals ≤ R.locals)
    (hn : As.length = n) (hsz : ls.size = nL) (hstack : st0 = As.reverse ++ .ref a :: rest) (hW : (rest.map fun v => v.category).sum ≤ 8) (hdg : decode cc pc = .ok (.invokevirtual index, 3)) (hf : cells + rm.cells ≤ R.cells ∧ slots + rm.slots ≤ R.slots)
    (kk : ∀ (r : α) (h' : pd_H) (H1 : Heap) (locs1 : List Loc), post r h' → pd_w G s H1 locs1 h' → W p l e R s m args below meth c H1 locs1 (cells + rm.cells) (slots + rm.slots) Q (F0 m (pc + 3) ls (mk r :: rest))) : W p l e R s m args below meth c H locs cells slots Q (F0 m pc ls st0) :=
  pd_run (va_runVN (C := r0.1) (pd_fix X) hM ⟨pd_callN X ok hl hR, X.2.2.2.2.2.1 _ hst.1, X.2.2.2.2.2.1 _ hst.2⟩ (pd_preV X w ho hc) rfl hn hsz hstack (lv_room hW) hdg hf) w kk
/-- an inherited method: named through C's or another class x.cls, found at y = owner's -/
theorem pd_callU {x : MethodName} {C : String} (X : pd_B p s m args meth c G own cc nL ret) (ok : pd_ok y b maxL rt n) (hyx : y = ⟨y.cls, x.name, x.desc⟩) (hst : Cond.instanceMethod y ∈ pd_T ∧ (Cond.selects C x y).before args s = true ∧ Cond.sameMethod x.cls y.cls x.name x.desc ∈ pd_T) (hl : Cond.methodLink own index x ∈ pd_T) (hR : rm.frames + 1 ≤ R.frames ∧ 8 + (maxL + 11) + rm.locals ≤ R.locals) :
    va_CU R s args own C y.cls index x y b maxL rt (.code y b maxL rt :: pd_T) rm rm.cells rm.slots n := by
  obtain ⟨hx, hb, hr, hml, hown, hts, hlocks, hE⟩ := X
  obtain ⟨k1, k2, k3, k4⟩ := ok
  refine ⟨⟨rfl, rfl, hR.1, hR.2, fun w hw a' U hW => ?_, List.mem_cons_self⟩, hts _ k1, hts _ k2, k3, fun sig hs => ?_, hts _ hl, hts _ hst.2.2, by rw [← hyx]; exact va_Decl.of (hts _ hst.1) (hts _ k1), hst.2.1, hts _ hst.1⟩
  · rcases List.mem_cons.mp hw with e | e
    · rw [e]; exact word_at hW (pd_T_good _ k1) (hts _ k1)
    · exact word_at hW (pd_T_good _ e) (hts _ e)
  · rw [show y.desc = x.desc by rw [hyx], hs] at k4
    exact (Option.some.inj k4).symm
theorem pd_cU {x : MethodName} {α : Type} {mk : α → Value} {post : α → pd_H → Prop} {tg ci : Nat} {fs : List Value} {r0 : vw_C} (X : pd_B p s m args meth c G own cc nL ret) (w : pd_w G s H locs h) (ho : h a = some (tg, .inr (ci, fs))) (hc : vwCl[ci]? = some r0) (hM : pd_M l y b maxL rt rm G h (.ref a :: As) mk post) (ok : pd_ok y b maxL rt n) (hyx : y = ⟨y.cls, x.name, x.desc⟩) (hst : Cond.instanceMethod y ∈ pd_T ∧ (Cond.selects r0.1 x y).before args s = true ∧ Cond.sameMethod x.cls y.cls x.name x.desc ∈ pd_T) (hl : Cond.methodLink own index x ∈ pd_T) (hR : rm.frames + 1 ≤ R.frames ∧ 8 + (maxL + 11) + rm.locals ≤ R.locals)
    (hn : As.length = n) (hsz : ls.size = nL) (hstack : st0 = As.reverse ++ .ref a :: rest) (hW : (rest.map fun v => v.category).sum ≤ 8) (hdg : decode cc pc = .ok (.invokevirtual index, 3)) (hf : cells + rm.cells ≤ R.cells ∧ slots + rm.slots ≤ R.slots)
    (kk : ∀ (r : α) (h' : pd_H) (H1 : Heap) (locs1 : List Loc), post r h' → pd_w G s H1 locs1 h' → W p l e R s m args below meth c H1 locs1 (cells + rm.cells) (slots + rm.slots) Q (F0 m (pc + 3) ls (mk r :: rest))) : W p l e R s m args below meth c H locs cells slots Q (F0 m pc ls st0) :=
  pd_run (va_runU (C := r0.1) (pd_fix X) hM (pd_callU X ok hyx hst hl hR) (pd_preV X w ho hc) rfl hn hsz hstack (lv_room hW) hdg hf) w kk
theorem pd_cUv {x : MethodName} {post : pd_H → Prop} {tg ci : Nat} {fs : List Value} {r0 : vw_C} (X : pd_B p s m args meth c G own cc nL ret) (w : pd_w G s H locs h) (ho : h a = some (tg, .inr (ci, fs))) (hc : vwCl[ci]? = some r0) (hM : pd_Mv l y b maxL rm G h (.ref a :: As) post) (ok : pd_ok y b maxL none n) (hyx : y = ⟨y.cls, x.name, x.desc⟩) (hst : Cond.instanceMethod y ∈ pd_T ∧ (Cond.selects r0.1 x y).before args s = true ∧ Cond.sameMethod x.cls y.cls x.name x.desc ∈ pd_T) (hl : Cond.methodLink own index x ∈ pd_T) (hR : rm.frames + 1 ≤ R.frames ∧ 8 + (maxL + 11) + rm.locals ≤ R.locals)
    (hn : As.length = n) (hsz : ls.size = nL) (hstack : st0 = As.reverse ++ .ref a :: rest) (hW : (rest.map fun v => v.category).sum ≤ 8) (hdg : decode cc pc = .ok (.invokevirtual index, 3)) (hf : cells + rm.cells ≤ R.cells ∧ slots + rm.slots ≤ R.slots)
    (kk : ∀ (h' : pd_H) (H1 : Heap) (locs1 : List Loc), post h' → pd_w G s H1 locs1 h' → W p l e R s m args below meth c H1 locs1 (cells + rm.cells) (slots + rm.slots) Q (F0 m (pc + 3) ls rest)) : W p l e R s m args below meth c H locs cells slots Q (F0 m pc ls st0) :=
  pd_runv (va_runU (C := r0.1) (pd_fix X) hM (pd_callU X ok hyx hst hl hR) (pd_preV X w ho hc) rfl hn hsz hstack (lv_room hW) hdg hf) w kk
/-! fields -/
variable {tg ci k : Nat} {fs : List Value} {C ref : String} {T : u_T} {N : Nat} {v : Value}
theorem pd_get (X : pd_B p s m args meth c G own cc nL ret) (w : pd_w G s H locs h) (ho : h a = some (tg, .inr (ci, fs))) (hc : vwCl[ci]? = some (C, T, N)) (k : Nat) (hk : k < N) (hl : Cond.fieldLink own index ref (T k).2.1 (T k).2.2.1 ∈ pd_T) (hsame : (T k).1 = ref) (hv : fs[k]? = some v) (hdg : decode cc pc = .ok (.getfield index, 3))
    (kk : W p l e R s m args below meth c H locs cells slots Q (F0 m (pc + 3) ls (v :: rest))) : W p l e R s m args below meth c H locs cells slots Q (F0 m pc ls (.ref a :: rest)) := by
  obtain ⟨hx, hb, hr, hml, hown, hts, hlocks, hE⟩ := X
  obtain ⟨r, cell, h1, q1, q2, q3, q4, q5⟩ := (w.1.2 a _ ho).1
  have hr : r = (C, T, N) := Option.some.inj (h1.symm.trans hc)
  subst hr
  obtain ⟨hS, hfc, kC, hkC, hkind⟩ := hE.1.1 ci _ hc
  obtain ⟨cf, kf, fi, f, hi, hsl⟩ := hS k hk
  refine W.getf hx hb hown (hts _ hl) (by rw [← hsame]; exact hi) (u_facts hfc hkC (u_lays hts (pd_lays hc) hk) hi).1 q1 q4 (v := v) ?_ rfl rfl hdg kk
  rw [hsl, q5 k hk]
  simp [vp_V, hv]
theorem pd_getN {host : String} (X : pd_B p s m args meth c G own cc nL ret) (w : pd_w G s H locs h) (ho : h a = some (tg, .inr (ci, fs))) (hc : vwCl[ci]? = some (C, T, N)) (k : Nat) (hk : k < N) (hl : Cond.fieldLinkNest own index ref (T k).2.1 (T k).2.2.1 host ∈ pd_N) (hsame : (T k).1 = ref) (hv : fs[k]? = some v) (hdg : decode cc pc = .ok (.getfield index, 3))
    (kk : W p l e R s m args below meth c H locs cells slots Q (F0 m (pc + 3) ls (v :: rest))) : W p l e R s m args below meth c H locs cells slots Q (F0 m pc ls (.ref a :: rest)) := by
  have hnest := X.nw hl
  obtain ⟨hx, hb, hr, hml, hown, hts, hlocks, hE⟩ := X
  obtain ⟨r, cell, h1, q1, q2, q3, q4, q5⟩ := (w.1.2 a _ ho).1
  have hr : r = (C, T, N) := Option.some.inj (h1.symm.trans hc)
  subst hr
  obtain ⟨hS, hfc, kC, hkC, hkind⟩ := hE.1.1 ci _ hc
  obtain ⟨cf, kf, fi, f, hi, hsl⟩ := hS k hk
  refine va_Wgetf hx hb hown hnest (by rw [← hsame]; exact hi) (u_facts hfc hkC (u_lays hts (pd_lays hc) hk) hi).1 q1 q4 (v := v) ?_ rfl rfl hdg kk
  rw [hsl, q5 k hk]
  simp [vp_V, hv]
/-- what is known of a field that is written: its type, and that the class's names differ -/
theorem pd_apart {ws : List Cond} {C : String} {T : u_T} {N ci : Nat} {D : va_G} {tys : List (ClassId × FieldType)} (hts : ∀ w ∈ ws, w.before args s = true) (hin : ∀ w ∈ u_ws C T N, w ∈ ws) (hty : ∀ k, k < N → ∃ ty, parseFieldDescriptor (T k).2.2.1 = some ty) (hnm : ∀ a, a < N → ∀ b, b < N → a ≠ b → (T a).2.1 ≠ (T b).2.1) (hK : va_K D vwCl tys s) (hc : vwCl[ci]? = some (C, T, N)) : ∀ x y, x < N → y < N → x ≠ y → (D.2 ci) x ≠ (D.2 ci) y := by
  intro x y hx hy hne
  obtain ⟨hS, -⟩ := hK.1 ci _ hc
  obtain ⟨_, _, _, fa, hia, ea⟩ := hS x hx
  obtain ⟨_, _, _, fb, hib, eb⟩ := hS y hy
  rw [← ea, ← eb]
  refine u_apart (u_lays hts hin hx) (u_lays hts hin hy) hia hib ?_
  obtain ⟨ta, ha⟩ := hty x hx
  obtain ⟨tb, hb⟩ := hty y hy
  rw [(State.fieldFound?_type hia ha).1, (State.fieldFound?_type hib hb).1]
  exact hnm x hx y hy hne
theorem pd_S.put {A : Nat → Prop} {H0 H H1 : Heap} {locs : List Loc} {a k : Nat} (h : va_S A H0 H locs) (z : H1.size = H.size) (oq : ∀ q : Nat, q ≠ a → H1[q]? = H[q]?) (ha : A a) : va_S A H0 H1 (locs ++ [⟨a, k⟩]) := h.put z oq ha
theorem pd_put {ty : FieldType} (X : pd_B p s m args meth c G own cc nL ret) (w : pd_w G s H locs h) (ho : h a = some (tg, .inr (ci, fs))) (hz : G.2.1 ≤ a) (hc : vwCl[ci]? = some (C, T, N)) (k : Nat) (hk : k < N) (hl : Cond.fieldLink own index ref (T k).2.1 (T k).2.2.1 ∈ pd_T) (hsame : (T k).1 = ref) (hfin : (T k).2.2.2 = false) (hd : parseFieldDescriptor (T k).2.2.1 = some ty) (hn : narrow ty v = v) (hfit : fits ty v = true) (hlen : k < fs.length) (hdg : decode cc pc = .ok (.putfield index, 3))
    (kk : ∀ (H1 : Heap) (locs1 : List Loc), pd_w G s H1 locs1 (pd_up h a (tg, .inr (ci, fs.set k v))) → W p l e R s m args below meth c H1 locs1 cells slots Q (F0 m (pc + 3) ls rest)) : W p l e R s m args below meth c H locs cells slots Q (F0 m pc ls (v :: .ref a :: rest)) := by
  obtain ⟨hx, hb, hr, hml, hown, hts, hlocks, hE⟩ := X
  have hap := pd_apart hts (pd_lays hc) (pd_types hc) (pd_names hc) hE.1 hc
  obtain ⟨r, h1, cell, q1, q2, q3, q4⟩ := (w.1.2 a _ ho).2 hz
  have hr : r = (C, T, N) := Option.some.inj (h1.symm.trans hc)
  subst hr
  obtain ⟨hS, hfc, kC, hkC, hkind⟩ := hE.1.1 ci _ hc
  obtain ⟨cf, kf, fi, f, hi, hsl⟩ := hS k hk
  have hlay := hts _ (pd_lays hc _ (u_in_lay hk))
  unfold u_lay at hlay
  rw [if_neg (by rw [hfin]; decide)] at hlay
  have hst := (u_facts hfc hkC (u_lays hts (pd_lays hc) hk) hi).1
  have h6 := u_store hfc hkC hkind hlay hi hd hn hfit
  refine W.putK hx hb (f := f) ⟨hown, hts _ hl, ⟨_, _, _, by rw [← hsame]; exact hi⟩, hst⟩ (by rw [q2]; exact h6) q1 q3 (by rw [hsl]; exact k2_hasslot (q4 k hk)) rfl rfl hdg fun H' e1 e2 e3 => ?_
  rw [hsl] at e1 ⊢
  exact kk H' _ ⟨w.1.put (c := (tg, .inr (ci, fs.set k v))) ⟨_, hc, t_OB.to (V := updV (vp_V fs) k v) ⟨_, e1, q2, q3, t_set q4 hap hk v⟩ (fun j _ => vp_updV_set hlen v j)⟩ e2 e3, w.2.1.put hE.2.2.1 hz, w.2.2.put e2 e3 hz⟩
theorem pd_putF {ty : FieldType} (X : pd_B p s m args meth c G own cc nL ret) (w : pd_w G s H locs h) (ho : h a = some (tg, .inr (ci, fs))) (hz : G.2.1 ≤ a) (hc : vwCl[ci]? = some (C, T, N)) (k : Nat) (hk : k < N) (hl : Cond.fieldLink own index ref (T k).2.1 (T k).2.2.1 ∈ pd_T) (hsame : (T k).1 = ref) (hfin : (T k).2.2.2 = true) (hin2 : meth.name = "<init>") (hdecl : (T k).1 = own) (hd : parseFieldDescriptor (T k).2.2.1 = some ty) (hn : narrow ty v = v) (hfit : fits ty v = true) (hlen : k < fs.length) (hdg : decode cc pc = .ok (.putfield index, 3))
    (kk : ∀ (H1 : Heap) (locs1 : List Loc), pd_w G s H1 locs1 (pd_up h a (tg, .inr (ci, fs.set k v))) → W p l e R s m args below meth c H1 locs1 cells slots Q (F0 m (pc + 3) ls rest)) : W p l e R s m args below meth c H locs cells slots Q (F0 m pc ls (v :: .ref a :: rest)) := by
  obtain ⟨hx, hb, hr, hml, hown, hts, hlocks, hE⟩ := X
  have hap := pd_apart hts (pd_lays hc) (pd_types hc) (pd_names hc) hE.1 hc
  obtain ⟨r, h1, cell, q1, q2, q3, q4⟩ := (w.1.2 a _ ho).2 hz
  have hr : r = (C, T, N) := Option.some.inj (h1.symm.trans hc)
  subst hr
  obtain ⟨hS, hfc, kC, hkC, hkind⟩ := hE.1.1 ci _ hc
  obtain ⟨cf, kf, fi, f, hi, hsl⟩ := hS k hk
  have hlay := hts _ (pd_lays hc _ (u_in_lay hk))
  unfold u_lay at hlay
  rw [if_pos hfin] at hlay
  have hst := (u_facts hfc hkC (u_lays hts (pd_lays hc) hk) hi).1
  have hcf : m.cls = cf := by
    obtain ⟨_, _, c', _, _, _, -, -, hf', -, -, -, hown2, -⟩ := Cond.laysFinal_spec hlay
    have e1 : c' = cf := by have := hi.symm.trans hf'; simp at this; exact this.1.symm
    rw [hdecl] at hown2
    rw [← e1]; exact Option.some.inj (hown.symm.trans hown2)
  have h6 := u_fits hfc hkC hkind (Or.inr hlay) hi hd hn hfit
  refine W.putFinK hx hb hown (hts _ hl) (by rw [← hsame]; exact hi) hst hcf hin2 (by rw [q2]; exact h6) q1 q3 (by rw [hsl]; exact k2_hasslot (q4 k hk)) rfl rfl hdg fun H' e1 e2 e3 => ?_
  rw [hsl] at e1 ⊢
  exact kk H' _ ⟨w.1.put (c := (tg, .inr (ci, fs.set k v))) ⟨_, hc, t_OB.to (V := updV (vp_V fs) k v) ⟨_, e1, q2, q3, t_set q4 hap hk v⟩ (fun j _ => vp_updV_set hlen v j)⟩ e2 e3, w.2.1.put hE.2.2.1 hz, w.2.2.put e2 e3 hz⟩
/-! new -/
theorem pd_new {n : Nat} (tg : Nat) (X : pd_B p s m args meth c G own cc nL ret) (w : pd_w G s H locs h) (hc : vwCl[ci]? = some (C, T, N)) (hcl : Cond.classLink own index C ∈ pd_T) (hinst : Cond.instantiable C n ∈ pd_T) (hini : Cond.initialized C ∈ pd_T) (hfs : ∀ j, j < N → ∃ ty, parseFieldDescriptor (T j).2.2.1 = some ty ∧ defaultValue ty = vp_V fs j) (hcells : cells + 1 ≤ R.cells) (hslots : slots + n ≤ R.slots) (hdg : decode cc pc = .ok (.new index, 3))
    (kk : ∀ (q : Nat) (H1 : Heap), h q = none → G.2.1 ≤ q → pd_w G s H1 locs (pd_up h q (tg, .inr (ci, fs))) → W p l e R s m args below meth c H1 locs (cells + 1) (slots + n) Q (F0 m (pc + 3) ls (.ref q :: rest))) : W p l e R s m args below meth c H locs cells slots Q (F0 m pc ls rest) := by
  obtain ⟨hx, hb, hr, hml, hown, hts, hlocks, hE⟩ := X
  have hKn := hE.1.1 ci _ hc
  refine W.newcK hx hb hown (hts _ hcl) (hts _ hinst) (hts _ hini) rfl hdg hcells hslots hKn.2.1 rfl fun H1 kC hkC e1 z1 o1 => ?_
  have hlow : G.2.1 ≤ H.size := w.1.1
  have htys : ∃ ty : Nat → FieldType, ∀ j, j < N → parseFieldDescriptor (T j).2.2.1 = some (ty j) ∧ defaultValue (ty j) = vp_V fs j := by
    have h0 : ∀ j : Nat, ∃ t : FieldType, j < N → parseFieldDescriptor (T j).2.2.1 = some t ∧ defaultValue t = vp_V fs j := by
      intro j
      by_cases hj : j < N
      · obtain ⟨t, ht⟩ := hfs j hj
        exact ⟨t, fun _ => ht⟩
      · exact ⟨.int, fun h => absurd h hj⟩
    exact ⟨fun j => Classical.choose (h0 j), fun j hj => Classical.choose_spec (h0 j) hj⟩
  obtain ⟨ty, hty⟩ := htys
  refine kk H.size H1 (w.1.out (Nat.le_refl _)) hlow ⟨w.1.new (c := (tg, .inr (ci, fs))) ⟨_, hc, (u_born ty hts (pd_lays hc) hKn hkC e1 (fun j hj => (hty j hj).1)).to (fun j hj => (hty j hj).2)⟩ z1 o1, w.2.1.le (pd_up_le (w.1.out (Nat.le_refl _))), Nat.le_trans w.2.2.1 (by omega), fun x h1 h2 => (o1 x (Nat.lt_of_lt_of_le h1 w.2.2.1)).trans (w.2.2.2.1 x h1 h2), w.2.2.2.2⟩
/-! arrays; an index is 'nI i' -/
theorem pd_clamp {i n : Nat} (hi : i < n) (hn : n < 2 ^ 31) : (nI i).toNatClampNeg = i ∧ ¬ (nI i < 0 ∨ n ≤ (nI i).toNatClampNeg) := ⟨nI_clamp (Nat.lt_trans hi hn), nI_in hi hn⟩
variable {n i : Nat} {f : Nat → Int32} {g : Nat → Option Nat} {ty : FieldType}
theorem pd_ain {cell : Cell} {n i : Nat} (h4 : n ≤ cell.slots.size) (hi : i < n) (hn : n < 2 ^ 31) : ¬ (nI i < 0 ∨ cell.slots.size ≤ (nI i).toNatClampNeg) := by
  obtain ⟨c1, c2⟩ := pd_clamp hi hn
  intro q
  rcases q with q | q
  · exact c2 (Or.inl q)
  · rw [c1] at q; omega
theorem pd_bald (X : pd_B p s m args meth c G own cc nL ret) (w : pd_w G s H locs h) (ho : h a = some (tg, .inl (.byte, n, .inl f))) (hi : i < n) (hn : n < 2 ^ 31) (hdg : decode cc pc = .ok (.baload, 1))
    (kk : W p l e R s m args below meth c H locs cells slots Q (F0 m (pc + 1) ls (.int (f i) :: rest))) : W p l e R s m args below meth c H locs cells slots Q (F0 m pc ls (.int (nI i) :: .ref a :: rest)) := by
  obtain ⟨cell, h1, h2, h3, h4, h5, h6, h7⟩ := (w.1.2 a _ ho).1
  exact W.bald (v := .int (f i)) X.1 X.2.1 h1 h2 h3 (pd_ain h4 hi hn) (by rw [(pd_clamp hi hn).1]; exact h6 i hi) rfl rfl hdg kk
theorem pd_zald (X : pd_B p s m args meth c G own cc nL ret) (w : pd_w G s H locs h) (ho : h a = some (tg, .inl (.boolean, n, .inl f))) (hi : i < n) (hn : n < 2 ^ 31) (hdg : decode cc pc = .ok (.baload, 1))
    (kk : W p l e R s m args below meth c H locs cells slots Q (F0 m (pc + 1) ls (.int (f i) :: rest))) : W p l e R s m args below meth c H locs cells slots Q (F0 m pc ls (.int (nI i) :: .ref a :: rest)) := by
  obtain ⟨cell, h1, h2, h3, h4, h5, h6, h7⟩ := (w.1.2 a _ ho).1
  exact W.zald (v := .int (f i)) X.1 X.2.1 h1 h2 h3 (pd_ain h4 hi hn) (by rw [(pd_clamp hi hn).1]; exact h6 i hi) rfl rfl hdg kk
theorem pd_cald (X : pd_B p s m args meth c G own cc nL ret) (w : pd_w G s H locs h) (ho : h a = some (tg, .inl (.char, n, .inl f))) (hi : i < n) (hn : n < 2 ^ 31) (hdg : decode cc pc = .ok (.caload, 1))
    (kk : W p l e R s m args below meth c H locs cells slots Q (F0 m (pc + 1) ls (.int (f i) :: rest))) : W p l e R s m args below meth c H locs cells slots Q (F0 m pc ls (.int (nI i) :: .ref a :: rest)) := by
  obtain ⟨cell, h1, h2, h3, h4, h5, h6, h7⟩ := (w.1.2 a _ ho).1
  exact W.cald (v := .int (f i)) X.1 X.2.1 h1 h2 h3 (pd_ain h4 hi hn) (by rw [(pd_clamp hi hn).1]; exact h6 i hi) rfl rfl hdg kk
theorem pd_iald (X : pd_B p s m args meth c G own cc nL ret) (w : pd_w G s H locs h) (ho : h a = some (tg, .inl (.int, n, .inl f))) (hi : i < n) (hn : n < 2 ^ 31) (hdg : decode cc pc = .ok (.iaload, 1))
    (kk : W p l e R s m args below meth c H locs cells slots Q (F0 m (pc + 1) ls (.int (f i) :: rest))) : W p l e R s m args below meth c H locs cells slots Q (F0 m pc ls (.int (nI i) :: .ref a :: rest)) := by
  obtain ⟨cell, h1, h2, h3, h4, h5, h6, h7⟩ := (w.1.2 a _ ho).1
  exact W.iald (v := .int (f i)) X.1 X.2.1 h1 h2 h3 (pd_ain h4 hi hn) (by rw [(pd_clamp hi hn).1]; exact h6 i hi) rfl rfl hdg kk
theorem pd_lald {f : Nat → Int64} (X : pd_B p s m args meth c G own cc nL ret) (w : pd_w G s H locs h) (ho : h a = some (tg, .inl (.long, n, .inr (.inl f)))) (hi : i < n) (hn : n < 2 ^ 31) (hdg : decode cc pc = .ok (.laload, 1))
    (kk : W p l e R s m args below meth c H locs cells slots Q (F0 m (pc + 1) ls (.long (f i) :: rest))) : W p l e R s m args below meth c H locs cells slots Q (F0 m pc ls (.int (nI i) :: .ref a :: rest)) := by
  obtain ⟨cell, h1, h2, h3, h4, h5, h6, h7⟩ := (w.1.2 a _ ho).1
  exact W.lald (v := .long (f i)) X.1 X.2.1 h1 h2 h3 (pd_ain h4 hi hn) (by rw [(pd_clamp hi hn).1]; exact h6 i hi) rfl rfl hdg kk
theorem pd_aald (X : pd_B p s m args meth c G own cc nL ret) (w : pd_w G s H locs h) (ho : h a = some (tg, .inl (ty, n, .inr (.inr (.inr (.inr g)))))) (hty : ty.isReference = true) (hi : i < n) (hn : n < 2 ^ 31) (hdg : decode cc pc = .ok (.aaload, 1))
    (kk : W p l e R s m args below meth c H locs cells slots Q (F0 m (pc + 1) ls (va_rf (g i) :: rest))) : W p l e R s m args below meth c H locs cells slots Q (F0 m pc ls (.int (nI i) :: .ref a :: rest)) := by
  obtain ⟨cell, h1, h2, h3, h4, h5, h6, h7⟩ := (w.1.2 a _ ho).1
  exact W.aald (v := va_rf (g i)) X.1 X.2.1 h1 h2 hty h3 (pd_ain h4 hi hn) (by rw [(pd_clamp hi hn).1]; exact h6 i hi) rfl rfl hdg kk
theorem pd_alen {y : (Nat → Int32) ⊕ (Nat → Int64) ⊕ (Nat → UInt32) ⊕ (Nat → UInt64) ⊕ (Nat → Option Nat)} (X : pd_B p s m args meth c G own cc nL ret) (w : pd_w G s H locs h) (ho : h a = some (tg, .inl (ty, n, y))) (hdg : decode cc pc = .ok (.arraylength, 1))
    (kk : W p l e R s m args below meth c H locs cells slots Q (F0 m (pc + 1) ls (.int (nI n) :: rest))) : W p l e R s m args below meth c H locs cells slots Q (F0 m pc ls (.ref a :: rest)) := by
  obtain ⟨cell, h1, h2, h3, h4, h5, h6, h7⟩ := (w.1.2 a _ ho).1
  exact W.alen (n := nI n) X.1 X.2.1 h1 h2 h5 rfl rfl hdg kk
/-- an array's cell after a store -/
theorem pd_ast {cA : ClassId} {x x' : vp_A} {i : Nat} {v : Value} (hx : x'.1 = x.1) (he : pd_el x' = updV (pd_el x) i v) : (vp_cell cA x).setSlot i v = vp_cell cA x' := by
  rw [pd_cell_el, pd_cell_el, arrV_store, hx, he]
theorem pd_el_i (f : Nat → Int32) (n i : Nat) (z : Int32) : pd_el (n, .inl (upd f i z)) = updV (pd_el (n, .inl f)) i (.int z) := by
  funext q
  by_cases e : q = i
  · simp [pd_el, updV, upd, e]
  · simp [pd_el, updV, upd, e]
theorem pd_el_l (f : Nat → Int64) (n i : Nat) (z : Int64) : pd_el (n, .inr (.inl (vp_updL f i z))) = updV (pd_el (n, .inr (.inl f))) i (.long z) := by
  funext q
  by_cases e : q = i
  · simp [pd_el, updV, vp_updL, e]
  · simp [pd_el, updV, vp_updL, e]
theorem pd_el_q (f : Nat → Option Nat) (n i : Nat) (z : Option Nat) : pd_el (n, .inr (.inr (.inr (.inr (va_up f i z))))) = updV (pd_el (n, .inr (.inr (.inr (.inr f))))) i (va_rf z) := by
  funext q
  by_cases e : q = i
  · simp [pd_el, updV, va_up, e]
  · simp [pd_el, updV, va_up, e]
theorem pd_iast {x : Int32} (X : pd_B p s m args meth c G own cc nL ret) (w : pd_w G s H locs h) (ho : h a = some (tg, .inl (.int, n, .inl f))) (hz : G.2.1 ≤ a) (hi : i < n) (hn : n < 2 ^ 31) (hdg : decode cc pc = .ok (.iastore, 1))
    (kk : ∀ (H1 : Heap) (locs1 : List Loc), pd_w G s H1 locs1 (pd_up h a (tg, .inl (.int, n, .inl (upd f i x)))) → W p l e R s m args below meth c H1 locs1 cells slots Q (F0 m (pc + 1) ls rest)) : W p l e R s m args below meth c H locs cells slots Q (F0 m pc ls (.int x :: .int (nI i) :: .ref a :: rest)) := by
  obtain ⟨cA, k1, k2, k3⟩ := (w.1.2 a _ ho).2 hz
  have k3 : H[a]? = some (vp_cell cA (n, .inl f)) := k3
  obtain ⟨c1, c2⟩ := pd_clamp hi hn
  refine W.iast X.1 X.2.1 k3 (k1 n (fun j => .int (f j))) (fun q => by cases q) (by show ¬ (nI i < 0 ∨ (arrV _ _ _).slots.size ≤ _); rw [arrV_size]; exact c2) rfl rfl hdg fun H1 e z oq => ?_
  rw [c1, pd_ast (x := (n, .inl f)) (x' := (n, .inl (upd f i x))) rfl (pd_el_i f n i x)] at e
  rw [c1]
  exact kk H1 _ ⟨w.1.put (c := (tg, .inl (.int, n, .inl (upd f i x)))) ⟨cA, k1, k2, e⟩ z oq, w.2.1.put X.2.2.2.2.2.2.2.2.2.1 hz, w.2.2.put z oq hz⟩
theorem pd_bast {x : Int32} (X : pd_B p s m args meth c G own cc nL ret) (w : pd_w G s H locs h) (ho : h a = some (tg, .inl (.byte, n, .inl f))) (hz : G.2.1 ≤ a) (hi : i < n) (hn : n < 2 ^ 31) (hdg : decode cc pc = .ok (.bastore, 1))
    (kk : ∀ (H1 : Heap) (locs1 : List Loc), pd_w G s H1 locs1 (pd_up h a (tg, .inl (.byte, n, .inl (upd f i x.toInt8.toInt32)))) → W p l e R s m args below meth c H1 locs1 cells slots Q (F0 m (pc + 1) ls rest)) : W p l e R s m args below meth c H locs cells slots Q (F0 m pc ls (.int x :: .int (nI i) :: .ref a :: rest)) := by
  obtain ⟨cA, k1, k2, k3⟩ := (w.1.2 a _ ho).2 hz
  have k3 : H[a]? = some (vp_cell cA (n, .inl f)) := k3
  obtain ⟨c1, c2⟩ := pd_clamp hi hn
  refine W.bast X.1 X.2.1 k3 (k1 n (fun j => .int (f j))) (fun q => by cases q) (by show ¬ (nI i < 0 ∨ (arrV _ _ _).slots.size ≤ _); rw [arrV_size]; exact c2) rfl rfl hdg fun H1 e z oq => ?_
  rw [c1, show narrow .byte (.int x) = .int x.toInt8.toInt32 from rfl, pd_ast (x := (n, .inl f)) (x' := (n, .inl (upd f i x.toInt8.toInt32))) rfl (pd_el_i f n i _)] at e
  rw [c1]
  exact kk H1 _ ⟨w.1.put (c := (tg, .inl (.byte, n, .inl (upd f i x.toInt8.toInt32)))) ⟨cA, k1, k2, e⟩ z oq, w.2.1.put X.2.2.2.2.2.2.2.2.2.1 hz, w.2.2.put z oq hz⟩
theorem pd_cast {x z : Int32} (X : pd_B p s m args meth c G own cc nL ret) (w : pd_w G s H locs h) (ho : h a = some (tg, .inl (.char, n, .inl f))) (hz : G.2.1 ≤ a) (hi : i < n) (hn : n < 2 ^ 31) (hxz : narrow .char (.int x) = .int z) (hdg : decode cc pc = .ok (.castore, 1))
    (kk : ∀ (H1 : Heap) (locs1 : List Loc), pd_w G s H1 locs1 (pd_up h a (tg, .inl (.char, n, .inl (upd f i z)))) → W p l e R s m args below meth c H1 locs1 cells slots Q (F0 m (pc + 1) ls rest)) : W p l e R s m args below meth c H locs cells slots Q (F0 m pc ls (.int x :: .int (nI i) :: .ref a :: rest)) := by
  obtain ⟨cA, k1, k2, k3⟩ := (w.1.2 a _ ho).2 hz
  have k3 : H[a]? = some (vp_cell cA (n, .inl f)) := k3
  obtain ⟨c1, c2⟩ := pd_clamp hi hn
  refine W.cast X.1 X.2.1 k3 (k1 n (fun j => .int (f j))) (fun q => by cases q) (by show ¬ (nI i < 0 ∨ (arrV _ _ _).slots.size ≤ _); rw [arrV_size]; exact c2) rfl rfl hdg fun H1 e zz oq => ?_
  rw [c1, hxz, pd_ast (x := (n, .inl f)) (x' := (n, .inl (upd f i z))) rfl (pd_el_i f n i _)] at e
  rw [c1]
  exact kk H1 _ ⟨w.1.put (c := (tg, .inl (.char, n, .inl (upd f i z)))) ⟨cA, k1, k2, e⟩ zz oq, w.2.1.put X.2.2.2.2.2.2.2.2.2.1 hz, w.2.2.put zz oq hz⟩
theorem pd_last {f : Nat → Int64} {x : Int64} (X : pd_B p s m args meth c G own cc nL ret) (w : pd_w G s H locs h) (ho : h a = some (tg, .inl (.long, n, .inr (.inl f)))) (hz : G.2.1 ≤ a) (hi : i < n) (hn : n < 2 ^ 31) (hdg : decode cc pc = .ok (.lastore, 1))
    (kk : ∀ (H1 : Heap) (locs1 : List Loc), pd_w G s H1 locs1 (pd_up h a (tg, .inl (.long, n, .inr (.inl (vp_updL f i x))))) → W p l e R s m args below meth c H1 locs1 cells slots Q (F0 m (pc + 1) ls rest)) : W p l e R s m args below meth c H locs cells slots Q (F0 m pc ls (.long x :: .int (nI i) :: .ref a :: rest)) := by
  obtain ⟨cA, k1, k2, k3⟩ := (w.1.2 a _ ho).2 hz
  have k3 : H[a]? = some (vp_cell cA (n, .inr (.inl f))) := k3
  obtain ⟨c1, c2⟩ := pd_clamp hi hn
  refine W.last X.1 X.2.1 k3 (k1 n (fun j => .long (f j))) (fun q => by cases q) (by show ¬ (nI i < 0 ∨ (arrV _ _ _).slots.size ≤ _); rw [arrV_size]; exact c2) rfl rfl hdg fun H1 e z oq => ?_
  rw [c1, pd_ast (x := (n, .inr (.inl f))) (x' := (n, .inr (.inl (vp_updL f i x)))) rfl (pd_el_l f n i x)] at e
  rw [c1]
  exact kk H1 _ ⟨w.1.put (c := (tg, .inl (.long, n, .inr (.inl (vp_updL f i x))))) ⟨cA, k1, k2, e⟩ z oq, w.2.1.put X.2.2.2.2.2.2.2.2.2.1 hz, w.2.2.put z oq hz⟩
/-- a reference to an object of the array's own class, or of one that may lie in it -/
theorem pd_aast {E : String} {tv cv : Nat} {vs : List Value} {r : vw_C} {b0 : Nat} (X : pd_B p s m args meth c G own cc nL ret) (w : pd_w G s H locs h) (ho : h a = some (tg, .inl (.object E, n, .inr (.inr (.inr (.inr g)))))) (hz : G.2.1 ≤ a) (hv : h b0 = some (tv, .inr (cv, vs))) (hc : vwCl[cv]? = some r) (hE : r.1 = E ∨ Cond.castable r.1 E ∈ pd_N) (hi : i < n) (hn : n < 2 ^ 31) (hdg : decode cc pc = .ok (.aastore, 1))
    (kk : ∀ (H1 : Heap) (locs1 : List Loc), pd_w G s H1 locs1 (pd_up h a (tg, .inl (.object E, n, .inr (.inr (.inr (.inr (va_up g i (some b0)))))))) → W p l e R s m args below meth c H1 locs1 cells slots Q (F0 m (pc + 1) ls rest)) : W p l e R s m args below meth c H locs cells slots Q (F0 m pc ls (.ref b0 :: .int (nI i) :: .ref a :: rest)) := by
  obtain ⟨cA, k1, k2, k3⟩ := (w.1.2 a _ ho).2 hz
  have k3 : H[a]? = some (vp_cell cA (n, .inr (.inr (.inr (.inr g))))) := k3
  obtain ⟨c1, c2⟩ := pd_clamp hi hn
  obtain ⟨r', cellV, g0, g1, g2, g3, g4, -⟩ := (w.1.2 b0 _ hv).1
  have hcls := (X.2.2.2.2.2.2.2.1.1 cv r hc).2
  obtain ⟨kA, comp, j1, j2, j3, j4⟩ := k2
  obtain ⟨kE, hkE, -⟩ := Vm.findClass_spec j3
  obtain ⟨kC, hkC, -⟩ := hcls.2
  have hasg : s.vm.assignable cellV.cls comp = true := by
    rcases hE with e | e
    · have hcomp : comp = G.1.1 cv := Option.some.inj (j3.symm.trans (by rw [← e]; exact hcls.1))
      rw [hcomp, g2]; exact va_assign hcls
    · obtain ⟨c0, t1, f1, f2, f3⟩ := Cond.castable_spec (X.nw e)
      cases hcls.1.symm.trans f1
      cases j3.symm.trans f2
      rw [g2]; exact f3
  refine W.aast X.1 X.2.1 k3 (fun q h => by cases h) (fun h => by cases h) j1 j2 rfl hkE ⟨fun q => c2 (Or.inl q), by show _ < (arrV _ _ _).slots.size; rw [arrV_size, c1]; exact hi⟩ g1 (fun q h => by rw [h] at g3; cases g3) (by rw [g2]; exact hkC) hasg rfl rfl hdg fun H1 e z oq => ?_
  rw [c1, show Value.ref b0 = va_rf (some b0) from rfl, pd_ast (x := (n, .inr (.inr (.inr (.inr g))))) (x' := (n, .inr (.inr (.inr (.inr (va_up g i (some b0))))))) rfl (pd_el_q g n i _)] at e
  rw [c1]
  exact kk H1 _ ⟨w.1.put (c := (tg, .inl (.object E, n, .inr (.inr (.inr (.inr (va_up g i (some b0)))))))) ⟨cA, k1, ⟨kA, comp, j1, j2, j3, j4⟩, e⟩ z oq, w.2.1.put X.2.2.2.2.2.2.2.2.2.1 hz, w.2.2.put z oq hz⟩
/-- newarray -/
theorem pd_newa {atype : ArrayType} {x : vp_A} (tg : Nat) (X : pd_B p s m args meth c G own cc nL ret) (w : pd_w G s H locs h) (hty : newarray.typeOf atype = ty) (harr : Cond.arrayClass ty ∈ pd_T) (hx : x.1 = n) (hel : pd_el x = fun _ => defaultValue ty) (hn : n < 2 ^ 24) (hcb : componentBytes ty ≤ 8) (hprim : ∀ cA : ClassId, s.vm.findClass ("[" ++ ty.toString) = some cA → va_RA s cA ty) (hcells : cells + 1 ≤ R.cells) (hslots : slots + n ≤ R.slots) (hdg : decode cc pc = .ok (.newarray atype, 2))
    (kk : ∀ (q : Nat) (H1 : Heap), h q = none → G.2.1 ≤ q → pd_w G s H1 locs (pd_up h q (tg, .inl (ty, x))) → W p l e R s m args below meth c H1 locs (cells + 1) (slots + n) Q (F0 m (pc + 2) ls (.ref q :: rest))) : W p l e R s m args below meth c H locs cells slots Q (F0 m pc ls (.int (nI n) :: rest)) := by
  subst hty
  have hn31 : n < 2 ^ 31 := Nat.lt_trans hn (by decide)
  refine va_newaK X.1 X.2.1 (X.2.2.2.2.2.1 _ harr) rfl hdg rfl (nI_pos hn31) (nI_clamp hn31) (Nat.le_trans (Nat.mul_le_mul_left n hcb) (by omega)) hcells hslots rfl fun H1 cA e1 z1 o1 hAr hNm => ?_
  have hlow : G.2.1 ≤ H.size := w.1.1
  refine kk H.size H1 (w.1.out (Nat.le_refl _)) hlow ⟨w.1.new (c := (tg, .inl (newarray.typeOf atype, x))) ⟨cA, hAr, hprim cA hNm, by show H1[H.size]? = some (vp_cell cA x); rw [pd_cell_el, hx, hel]; exact e1⟩ z1 o1, w.2.1.le (pd_up_le (w.1.out (Nat.le_refl _))), Nat.le_trans w.2.2.1 (by omega), fun x h1 h2 => (o1 x (Nat.lt_of_lt_of_le h1 w.2.2.1)).trans (w.2.2.2.1 x h1 h2), w.2.2.2.2⟩
/-- anewarray -/
theorem pd_newq {E : String} (tg : Nat) (X : pd_B p s m args meth c G own cc nL ret) (w : pd_w G s H locs h) (hcl : Cond.classLink own index E ∈ pd_T) (hov : Cond.arrayOver (.object E) ∈ lw_tbl) (hn : n < 2 ^ 24) (hcells : cells + 1 ≤ R.cells) (hslots : slots + n ≤ R.slots) (hdg : decode cc pc = .ok (.anewarray index, 3))
    (kk : ∀ (q : Nat) (H1 : Heap), h q = none → G.2.1 ≤ q → pd_w G s H1 locs (pd_up h q (tg, .inl (.object E, n, .inr (.inr (.inr (.inr (fun _ => none))))))) → W p l e R s m args below meth c H1 locs (cells + 1) (slots + n) Q (F0 m (pc + 3) ls (.ref q :: rest))) : W p l e R s m args below meth c H locs cells slots Q (F0 m pc ls (.int (nI n) :: rest)) := by
  have hn31 : n < 2 ^ 31 := Nat.lt_trans hn (by decide)
  have hcl0 := nI_clamp hn31
  refine W.anew X.1 X.2.1 X.2.2.2.2.1 (X.2.2.2.2.2.1 _ hcl) (X.ao hov) rfl hdg rfl (nI_pos hn31) (by rw [hcl0]; omega) hcells (by rw [hcl0]; exact hslots) fun cA kA comp f1 f2 f3 f4 => ?_
  rw [hcl0]
  generalize hH1 : H.push ({ cls := cA, slots := Array.replicate n .null, vm := .none } : Cell) = H1
  have z1 : H1.size = H.size + 1 := by rw [← hH1, Array.size_push]
  have e1 : H1[H.size]? = some (arrV cA n (fun _ => .null)) := by rw [← hH1, Array.getElem?_push_size, ← arrV_new]
  have o1 : ∀ q : Nat, q < H.size → H1[q]? = H[q]? := fun q hq => by rw [← hH1, Array.getElem?_push, if_neg (Nat.ne_of_lt hq)]
  have hAr : ArrOfT s cA (.object E) := fun N z => ⟨(fun k h => by cases h), kA, f2, comp, f3⟩
  have hlow : G.2.1 ≤ H.size := w.1.1
  refine kk H.size H1 (w.1.out (Nat.le_refl _)) hlow ⟨w.1.new (c := (tg, .inl (.object E, n, .inr (.inr (.inr (.inr (fun _ => none))))))) ⟨cA, hAr, ⟨kA, comp, f2, f3, f4, f1⟩, e1⟩ z1 o1, w.2.1.le (pd_up_le (w.1.out (Nat.le_refl _))), Nat.le_trans w.2.2.1 (by omega), fun x h1 h2 => (o1 x (Nat.lt_of_lt_of_le h1 w.2.2.1)).trans (w.2.2.2.1 x h1 h2), w.2.2.2.2⟩
end PDW
theorem pd_w.tag {G : pd_G} {s : State} {H : Heap} {locs : List Loc} {h : pd_H} (w : pd_w G s H locs h) (hz : ∀ (x : Nat) (d : pd_C), G.2.2.1 x = some d → x < G.2.1) {a t : Nat} (t' : Nat) {x : (FieldType × vp_A) ⊕ (Nat × List Value)} (ho : h a = some (t, x)) (ha : G.2.1 ≤ a) : pd_w G s H locs (pd_up h a (t', x)) :=
  ⟨w.1.tag ho, w.2.1.put hz ha, w.2.2⟩
/-! branches on small numbers -/
section PDJ
variable {p : Program} {l : Launch} {e : Env} {R : Room} {s : State} {m : MethodId} {args : Array Value} {below : List Frame} {meth : Method} {c : Code} {H : Heap} {locs : List Loc} {cells slots : Nat} {Q : State → Prop}
variable {cc : ByteArray} {pc : Nat} {ls : Array Slot} {rest : List Value} {a b : Nat} {off : Int} {tgt : Nat}
theorem pd_jeq (hx : p.tables.exec = Jvm.exec) (hb' : c.code = cc) (hdg : decode cc pc = .ok (.if_icmp .eq off, 3)) (ht : (pc : Int) + off = (tgt : Int)) (ha : a < 2 ^ 31) (hb : b < 2 ^ 31) (kt : a = b → W p l e R s m args below meth c H locs cells slots Q (F0 m tgt ls rest)) (kf : ¬ a = b → W p l e R s m args below meth c H locs cells slots Q (F0 m (pc + 3) ls rest)) : W p l e R s m args below meth c H locs cells slots Q (F0 m pc ls (.int (nI b) :: .int (nI a) :: rest)) :=
  lv_icmp_eq hx hb' hdg ht (fun q => kt ((nI_eq ha hb).mp q)) (fun q => kf (fun z => q ((nI_eq ha hb).mpr z)))
theorem pd_jne (hx : p.tables.exec = Jvm.exec) (hb' : c.code = cc) (hdg : decode cc pc = .ok (.if_icmp .ne off, 3)) (ht : (pc : Int) + off = (tgt : Int)) (ha : a < 2 ^ 31) (hb : b < 2 ^ 31) (kt : ¬ a = b → W p l e R s m args below meth c H locs cells slots Q (F0 m tgt ls rest)) (kf : a = b → W p l e R s m args below meth c H locs cells slots Q (F0 m (pc + 3) ls rest)) : W p l e R s m args below meth c H locs cells slots Q (F0 m pc ls (.int (nI b) :: .int (nI a) :: rest)) :=
  lv_icmp_ne hx hb' hdg ht (fun q => kt (fun z => q ((nI_eq ha hb).mpr z))) (fun q => kf ((nI_eq ha hb).mp q))
theorem pd_jlt (hx : p.tables.exec = Jvm.exec) (hb' : c.code = cc) (hdg : decode cc pc = .ok (.if_icmp .lt off, 3)) (ht : (pc : Int) + off = (tgt : Int)) (ha : a < 2 ^ 31) (hb : b < 2 ^ 31) (kt : a < b → W p l e R s m args below meth c H locs cells slots Q (F0 m tgt ls rest)) (kf : b ≤ a → W p l e R s m args below meth c H locs cells slots Q (F0 m (pc + 3) ls rest)) : W p l e R s m args below meth c H locs cells slots Q (F0 m pc ls (.int (nI b) :: .int (nI a) :: rest)) :=
  lv_icmp_lt hx hb' hdg ht (fun q => kt ((nI_ltI ha hb).mp q)) (fun q => kf (Nat.not_lt.mp (fun z => q ((nI_ltI ha hb).mpr z))))
theorem pd_jge (hx : p.tables.exec = Jvm.exec) (hb' : c.code = cc) (hdg : decode cc pc = .ok (.if_icmp .ge off, 3)) (ht : (pc : Int) + off = (tgt : Int)) (ha : a < 2 ^ 31) (hb : b < 2 ^ 31) (kt : b ≤ a → W p l e R s m args below meth c H locs cells slots Q (F0 m tgt ls rest)) (kf : a < b → W p l e R s m args below meth c H locs cells slots Q (F0 m (pc + 3) ls rest)) : W p l e R s m args below meth c H locs cells slots Q (F0 m pc ls (.int (nI b) :: .int (nI a) :: rest)) :=
  lv_icmp_ge hx hb' hdg ht (fun q => kt ((nI_leI hb ha).mp q)) (fun q => kf (Nat.not_le.mp (fun z => q ((nI_leI hb ha).mpr z))))
theorem pd_jgt (hx : p.tables.exec = Jvm.exec) (hb' : c.code = cc) (hdg : decode cc pc = .ok (.if_icmp .gt off, 3)) (ht : (pc : Int) + off = (tgt : Int)) (ha : a < 2 ^ 31) (hb : b < 2 ^ 31) (kt : b < a → W p l e R s m args below meth c H locs cells slots Q (F0 m tgt ls rest)) (kf : a ≤ b → W p l e R s m args below meth c H locs cells slots Q (F0 m (pc + 3) ls rest)) : W p l e R s m args below meth c H locs cells slots Q (F0 m pc ls (.int (nI b) :: .int (nI a) :: rest)) :=
  lv_icmp_gt hx hb' hdg ht (fun q => kt ((nI_ltI hb ha).mp q)) (fun q => kf (Nat.not_lt.mp (fun z => q ((nI_ltI hb ha).mpr z))))
theorem pd_jle (hx : p.tables.exec = Jvm.exec) (hb' : c.code = cc) (hdg : decode cc pc = .ok (.if_icmp .le off, 3)) (ht : (pc : Int) + off = (tgt : Int)) (ha : a < 2 ^ 31) (hb : b < 2 ^ 31) (kt : a ≤ b → W p l e R s m args below meth c H locs cells slots Q (F0 m tgt ls rest)) (kf : b < a → W p l e R s m args below meth c H locs cells slots Q (F0 m (pc + 3) ls rest)) : W p l e R s m args below meth c H locs cells slots Q (F0 m pc ls (.int (nI b) :: .int (nI a) :: rest)) :=
  lv_icmp_le hx hb' hdg ht (fun q => kt ((nI_leI ha hb).mp q)) (fun q => kf (Nat.not_le.mp (fun z => q ((nI_leI ha hb).mpr z))))
theorem pd_zeq (hx : p.tables.exec = Jvm.exec) (hb' : c.code = cc) (hdg : decode cc pc = .ok (.ifCond .eq off, 3)) (ht : (pc : Int) + off = (tgt : Int)) (ha : a < 2 ^ 31) (kt : a = 0 → W p l e R s m args below meth c H locs cells slots Q (F0 m tgt ls rest)) (kf : ¬ a = 0 → W p l e R s m args below meth c H locs cells slots Q (F0 m (pc + 3) ls rest)) : W p l e R s m args below meth c H locs cells slots Q (F0 m pc ls (.int (nI a) :: rest)) :=
  lv_if_eq hx hb' hdg ht (fun q => kt ((nI_eq ha (by decide : (0:Nat) < 2 ^ 31)).mp q)) (fun q => kf (fun z => q ((nI_eq ha (by decide : (0:Nat) < 2 ^ 31)).mpr z)))
theorem pd_zne (hx : p.tables.exec = Jvm.exec) (hb' : c.code = cc) (hdg : decode cc pc = .ok (.ifCond .ne off, 3)) (ht : (pc : Int) + off = (tgt : Int)) (ha : a < 2 ^ 31) (kt : ¬ a = 0 → W p l e R s m args below meth c H locs cells slots Q (F0 m tgt ls rest)) (kf : a = 0 → W p l e R s m args below meth c H locs cells slots Q (F0 m (pc + 3) ls rest)) : W p l e R s m args below meth c H locs cells slots Q (F0 m pc ls (.int (nI a) :: rest)) :=
  lv_if_ne hx hb' hdg ht (fun q => kt (fun z => q ((nI_eq ha (by decide : (0:Nat) < 2 ^ 31)).mpr z))) (fun q => kf ((nI_eq ha (by decide : (0:Nat) < 2 ^ 31)).mp q))
theorem pd_zgt (hx : p.tables.exec = Jvm.exec) (hb' : c.code = cc) (hdg : decode cc pc = .ok (.ifCond .gt off, 3)) (ht : (pc : Int) + off = (tgt : Int)) (ha : a < 2 ^ 31) (kt : 0 < a → W p l e R s m args below meth c H locs cells slots Q (F0 m tgt ls rest)) (kf : a = 0 → W p l e R s m args below meth c H locs cells slots Q (F0 m (pc + 3) ls rest)) : W p l e R s m args below meth c H locs cells slots Q (F0 m pc ls (.int (nI a) :: rest)) :=
  lv_if_gt hx hb' hdg ht (fun q => kt ((nI_ltI (by decide : (0:Nat) < 2 ^ 31) ha).mp q)) (fun q => kf (Nat.eq_zero_of_not_pos (fun z => q ((nI_ltI (by decide : (0:Nat) < 2 ^ 31) ha).mpr z))))
theorem pd_zle (hx : p.tables.exec = Jvm.exec) (hb' : c.code = cc) (hdg : decode cc pc = .ok (.ifCond .le off, 3)) (ht : (pc : Int) + off = (tgt : Int)) (ha : a < 2 ^ 31) (kt : a = 0 → W p l e R s m args below meth c H locs cells slots Q (F0 m tgt ls rest)) (kf : 0 < a → W p l e R s m args below meth c H locs cells slots Q (F0 m (pc + 3) ls rest)) : W p l e R s m args below meth c H locs cells slots Q (F0 m pc ls (.int (nI a) :: rest)) :=
  lv_if_le hx hb' hdg ht (fun q => kt (Nat.le_zero.mp ((nI_leI ha (by decide : (0:Nat) < 2 ^ 31)).mp q))) (fun q => kf (Nat.pos_of_ne_zero (fun z => q (by subst z; exact nI_leI (by decide : (0:Nat) < 2 ^ 31) (by decide : (0:Nat) < 2 ^ 31) |>.mpr (Nat.le_refl 0)))))
theorem pd_zlt (hx : p.tables.exec = Jvm.exec) (hb' : c.code = cc) (hdg : decode cc pc = .ok (.ifCond .lt off, 3)) (ht : (pc : Int) + off = (tgt : Int)) (ha : a < 2 ^ 31) (kf : W p l e R s m args below meth c H locs cells slots Q (F0 m (pc + 3) ls rest)) : W p l e R s m args below meth c H locs cells slots Q (F0 m pc ls (.int (nI a) :: rest)) :=
  lv_if_lt hx hb' hdg ht (fun q => absurd q (nI_pos ha)) (fun _ => kf)
theorem pd_zge (hx : p.tables.exec = Jvm.exec) (hb' : c.code = cc) (hdg : decode cc pc = .ok (.ifCond .ge off, 3)) (ht : (pc : Int) + off = (tgt : Int)) (ha : a < 2 ^ 31) (kt : W p l e R s m args below meth c H locs cells slots Q (F0 m tgt ls rest)) : W p l e R s m args below meth c H locs cells slots Q (F0 m pc ls (.int (nI a) :: rest)) :=
  lv_if_ge hx hb' hdg ht (fun _ => kt) (fun q => absurd (nI_pos' ha) q)
theorem pd_beq {v : Bool} (hx : p.tables.exec = Jvm.exec) (hb' : c.code = cc) (hdg : decode cc pc = .ok (.ifCond .eq off, 3)) (ht : (pc : Int) + off = (tgt : Int)) (kt : v = false → W p l e R s m args below meth c H locs cells slots Q (F0 m tgt ls rest)) (kf : v = true → W p l e R s m args below meth c H locs cells slots Q (F0 m (pc + 3) ls rest)) : W p l e R s m args below meth c H locs cells slots Q (F0 m pc ls (.int (pd_b v) :: rest)) :=
  lv_if_eq hx hb' hdg ht (fun q => kt (by cases v with | false => rfl | true => exact absurd q (by decide))) (fun q => kf (by cases v with | true => rfl | false => exact absurd rfl q))
theorem pd_bne {v : Bool} (hx : p.tables.exec = Jvm.exec) (hb' : c.code = cc) (hdg : decode cc pc = .ok (.ifCond .ne off, 3)) (ht : (pc : Int) + off = (tgt : Int)) (kt : v = true → W p l e R s m args below meth c H locs cells slots Q (F0 m tgt ls rest)) (kf : v = false → W p l e R s m args below meth c H locs cells slots Q (F0 m (pc + 3) ls rest)) : W p l e R s m args below meth c H locs cells slots Q (F0 m pc ls (.int (pd_b v) :: rest)) :=
  lv_if_ne hx hb' hdg ht (fun q => kt (by cases v with | true => rfl | false => exact absurd rfl q)) (fun q => kf (by cases v with | false => rfl | true => exact absurd q (by decide)))
theorem pd_iadd (hx : p.tables.exec = Jvm.exec) (hb' : c.code = cc) (hdg : decode cc pc = .ok (.iadd, 1)) (k : W p l e R s m args below meth c H locs cells slots Q (F0 m (pc + 1) ls (.int (nI (a + b)) :: rest))) : W p l e R s m args below meth c H locs cells slots Q (F0 m pc ls (.int (nI b) :: .int (nI a) :: rest)) :=
  lv_iadd hx hb' hdg (by rw [nI_add]; exact k)
theorem pd_isub (hx : p.tables.exec = Jvm.exec) (hb' : c.code = cc) (hdg : decode cc pc = .ok (.isub, 1)) (h : b ≤ a) (k : W p l e R s m args below meth c H locs cells slots Q (F0 m (pc + 1) ls (.int (nI (a - b)) :: rest))) : W p l e R s m args below meth c H locs cells slots Q (F0 m pc ls (.int (nI b) :: .int (nI a) :: rest)) :=
  lv_isub hx hb' hdg (by rw [pk_sub h]; exact k)
theorem pd_imul (hx : p.tables.exec = Jvm.exec) (hb' : c.code = cc) (hdg : decode cc pc = .ok (.imul, 1)) (k : W p l e R s m args below meth c H locs cells slots Q (F0 m (pc + 1) ls (.int (nI (a * b)) :: rest))) : W p l e R s m args below meth c H locs cells slots Q (F0 m pc ls (.int (nI b) :: .int (nI a) :: rest)) :=
  lv_imul hx hb' hdg (by rw [pk_mul]; exact k)
theorem pd_iinc {i nL k d : Nat} {n : Int} {lv lv' : List (Nat × Value)} (hx : p.tables.exec = Jvm.exec) (hb' : c.code = cc) (hdg : decode cc pc = .ok (.iinc i n, 3)) (hd : Int32.ofInt n = nI d) (hl : lv_has ls nL lv) (hk : lv[k]? = some (i, .int (nI a))) (hn : i < nL) (he : (i, Value.int (nI (a + d))) :: lv.filter (fun q => !(q.1 == i) && !(q.1 + 1 == i && q.2.category == 2)) = lv')
    (kk : ∀ ls' : Array Slot, lv_has ls' nL lv' → W p l e R s m args below meth c H locs cells slots Q (F0 m (pc + 3) ls' rest)) : W p l e R s m args below meth c H locs cells slots Q (F0 m pc ls rest) :=
  lv_iinc (v := nI (a + d)) hx hb' hdg hl hk (by rw [hd, nI_add]) hn he kk
/-- a reference that may be null -/
theorem pd_ifnull {o : Option Nat} (hx : p.tables.exec = Jvm.exec) (hb' : c.code = cc) (hdg : decode cc pc = .ok (.ifnull off, 3)) (ht : (pc : Int) + off = (tgt : Int)) (kt : o = none → W p l e R s m args below meth c H locs cells slots Q (F0 m tgt ls rest)) (kf : ∀ x : Nat, o = some x → W p l e R s m args below meth c H locs cells slots Q (F0 m (pc + 3) ls rest)) : W p l e R s m args below meth c H locs cells slots Q (F0 m pc ls (va_rf o :: rest)) := by
  cases o with
  | none => exact lv_ifnullN hx hb' hdg ht (kt rfl)
  | some x => exact lv_ifnull hx hb' hdg (kf x rfl)
theorem pd_ifnonnull {o : Option Nat} (hx : p.tables.exec = Jvm.exec) (hb' : c.code = cc) (hdg : decode cc pc = .ok (.ifnonnull off, 3)) (ht : (pc : Int) + off = (tgt : Int)) (kt : ∀ x : Nat, o = some x → W p l e R s m args below meth c H locs cells slots Q (F0 m tgt ls rest)) (kf : o = none → W p l e R s m args below meth c H locs cells slots Q (F0 m (pc + 3) ls rest)) : W p l e R s m args below meth c H locs cells slots Q (F0 m pc ls (va_rf o :: rest)) := by
  cases o with
  | none => exact lv_ifnonnullN hx hb' hdg (kf rfl)
  | some x => exact lv_ifnonnull hx hb' hdg ht (kt x rfl)
end PDJ
section PDK
variable {p : Program} {l : Launch} {e : Env} {R : Room} {s : State} {m : MethodId} {args : Array Value} {below : List Frame} {meth : Method} {c : Code} {H : Heap} {locs : List Loc} {cells slots : Nat} {Q : State → Prop}
variable {cc : ByteArray} {pc : Nat} {ls : Array Slot} {rest : List Value}
theorem pd_oload_n {o : Option Nat} {k : Fin 4} {i : Nat} (hx : p.tables.exec = Jvm.exec) (hb : c.code = cc) (hdg : decode cc pc = .ok (.aload_n k, 1)) (hi : (k : Nat) = i) (hl : ls[i]? = some (.val (va_rf o)))
    (kk : W p l e R s m args below meth c H locs cells slots Q (F0 m (pc + 1) ls (va_rf o :: rest))) : W p l e R s m args below meth c H locs cells slots Q (F0 m pc ls rest) := by
  cases o with
  | none => exact lv_aload_nN hx hb hdg hi hl kk
  | some x => exact lv_aload_n hx hb hdg hi hl kk
theorem pd_oload {o : Option Nat} {i : Nat} (hx : p.tables.exec = Jvm.exec) (hb : c.code = cc) (hdg : decode cc pc = .ok (.aload i, 2)) (hl : ls[i]? = some (.val (va_rf o)))
    (kk : W p l e R s m args below meth c H locs cells slots Q (F0 m (pc + 2) ls (va_rf o :: rest))) : W p l e R s m args below meth c H locs cells slots Q (F0 m pc ls rest) := by
  cases o with
  | none => exact lv_aloadN hx hb hdg hl kk
  | some x => exact lv_aload hx hb hdg hl kk
theorem pd_ostore_n {o : Option Nat} {k : Fin 4} {i nL : Nat} {lv lv' : List (Nat × Value)} (hx : p.tables.exec = Jvm.exec) (hb : c.code = cc) (hdg : decode cc pc = .ok (.astore_n k, 1)) (hi : (k : Nat) = i) (h : lv_has ls nL lv) (hn : i < nL) (hl : (i, va_rf o) :: lv.filter (fun q => !(q.1 == i) && !(q.1 + 1 == i && q.2.category == 2)) = lv')
    (kk : ∀ ls' : Array Slot, lv_has ls' nL lv' → W p l e R s m args below meth c H locs cells slots Q (F0 m (pc + 1) ls' rest)) : W p l e R s m args below meth c H locs cells slots Q (F0 m pc ls (va_rf o :: rest)) := by
  cases o with
  | none => exact lv_astore_nN hx hb hdg hi h hn hl kk
  | some x => exact lv_astore_n hx hb hdg hi h hn hl kk
theorem pd_ostore {o : Option Nat} {i nL : Nat} {lv lv' : List (Nat × Value)} (hx : p.tables.exec = Jvm.exec) (hb : c.code = cc) (hdg : decode cc pc = .ok (.astore i, 2)) (h : lv_has ls nL lv) (hn : i < nL) (hl : (i, va_rf o) :: lv.filter (fun q => !(q.1 == i) && !(q.1 + 1 == i && q.2.category == 2)) = lv')
    (kk : ∀ ls' : Array Slot, lv_has ls' nL lv' → W p l e R s m args below meth c H locs cells slots Q (F0 m (pc + 2) ls' rest)) : W p l e R s m args below meth c H locs cells slots Q (F0 m pc ls (va_rf o :: rest)) := by
  cases o with
  | none => exact lv_astoreN hx hb hdg h hn hl kk
  | some x => exact lv_astore hx hb hdg h hn hl kk
end PDK
