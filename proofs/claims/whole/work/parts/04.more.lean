/-! further rows: statics, String constants, answers that are small numbers -/
section PDX
variable {p : Program} {l : Launch} {e : Env} {R : Room} {s : State} {m : MethodId} {args : Array Value} {below : List Frame} {meth : Method} {c : Code} {H : Heap} {locs : List Loc} {cells slots : Nat} {Q : State → Prop}
variable {cc : ByteArray} {pc nL index : Nat} {ls : Array Slot} {rest : List Value} {G : pd_G} {own : String} {ret : Option FieldType} {h : pd_H} {mc ms : Nat}
theorem pd_gets {C n d : String} {v : Value} (X : pd_B p s m args meth c G own cc nL ret) (w : pd_w G s H locs h) (hz : (C, n, d, v) ∈ pd_Zs G.2.2.2) (hl : Cond.fieldLink own index C n d ∈ pd_T) (hdg : decode cc pc = .ok (.getstatic index, 3))
    (kk : W p l e R s m args below meth c H locs cells slots Q (F0 m (pc + 3) ls (v :: rest))) : W p l e R s m args below meth c H locs cells slots Q (F0 m pc ls rest) :=
  va_gets X.1 X.2.1 (X.2.2.2.2.2.2.2.2.2.2.1 _ hz) w.2.2 X.2.2.2.2.1 (X.2.2.2.2.2.1 _ hl) (fun _ h => h) hdg kk
theorem pd_ldc {tx : String} {j : Nat} (X : pd_B p s m args meth c G own cc nL ret) (hz : (own, index, tx, j) ∈ pd_Ls) (hdg : decode cc pc = .ok (.ldc index, 2))
    (kk : W p l e R s m args below meth c H locs cells slots Q (F0 m (pc + 2) ls (.ref (G.2.2.2 j) :: rest))) : W p l e R s m args below meth c H locs cells slots Q (F0 m pc ls rest) :=
  va_ldcS X.1 X.2.1 X.2.2.2.2.1 (X.2.2.2.2.2.2.2.2.2.2.2.1 _ hz) hdg kk
theorem pd_Str.kx {ts : List Nat} {h h' : pd_H} {a : Nat} {cs : List Nat} (q : pd_Str h a cs) (k : pd_kx ts h h') (n : 0 ∉ ts) : pd_Str h' a cs := by
  obtain ⟨v, f, h1, h2, h3⟩ := q
  exact ⟨v, f, k _ _ h1 n, k _ _ h2 n, h3⟩
theorem pd_litS (X : pd_B p s m args meth c G own cc nL ret) (w : pd_w G s H locs h) (j : Nat) (hj : j < 39) : pd_Str h (G.2.2.2 (40 + j)) (pd_lit j) := by
  obtain ⟨v, f, h1, h2, h3⟩ := X.2.2.2.2.2.2.2.2.2.2.2.2.2.2.1.1 j hj
  exact ⟨v, f, w.2.1 _ _ h1, w.2.1 _ _ h2, h3⟩
theorem pd_Kf_of (X : pd_B p s m args meth c G own cc nL ret) : pd_Kf G := X.2.2.2.2.2.2.2.2.2.2.2.2.2.2.1
abbrev pd_vn (n : Nat) : Value := .int (nI n)
def pd_m (o : Option Nat) : Int32 := match o with | none => -1 | some n => nI n
abbrev pd_vm (o : Option Nat) : Value := .int (pd_m o)
theorem pd_nret {post : Nat → pd_H → Prop} {v : Nat} (X : pd_B p s m args meth c G own cc nL (some .int)) (w : pd_w G s H locs h) (hp : post v h) (hc : cells ≤ mc) (hs : slots ≤ ms) (hdg : decode cc pc = .ok (.ireturn, 1)) :
    W p l e R s m args below meth c H locs cells slots (MQ below (pd_Q G pd_vn post) args s mc ms (fun q => G.2.1 ≤ q)) (F0 m pc ls [.int (nI v)]) := by
  obtain ⟨hx, hb, hr, hml, hown, hts, hlocks, hE⟩ := X
  refine W.widen hc hs ?_
  exact W.iret hx hb hr (fun t ht hW => ⟨⟨v, h, rfl, hp, by rw [ht]; exact w.1.moved hW.alike, w.2.1⟩, w.2.2.F ht⟩) w.2.2.2.2 hdg hlocks
/-- a char or byte answer -/
theorem pd_ncret {post : Nat → pd_H → Prop} {v : Nat} {ty : FieldType} (X : pd_B p s m args meth c G own cc nL (some ty)) (hn : narrow ty (.int (nI v)) = .int (nI v)) (w : pd_w G s H locs h) (hp : post v h) (hc : cells ≤ mc) (hs : slots ≤ ms) (hdg : decode cc pc = .ok (.ireturn, 1)) :
    W p l e R s m args below meth c H locs cells slots (MQ below (pd_Q G pd_vn post) args s mc ms (fun q => G.2.1 ≤ q)) (F0 m pc ls [.int (nI v)]) := by
  obtain ⟨hx, hb, hr, hml, hown, hts, hlocks, hE⟩ := X
  refine W.widen hc hs ?_
  exact W.zret hx hb hr hn (fun t ht hW => ⟨⟨v, h, rfl, hp, by rw [ht]; exact w.1.moved hW.alike, w.2.1⟩, w.2.2.F ht⟩) w.2.2.2.2 hdg hlocks
theorem pd_mret {post : Option Nat → pd_H → Prop} {v : Option Nat} (X : pd_B p s m args meth c G own cc nL (some .int)) (w : pd_w G s H locs h) (hp : post v h) (hc : cells ≤ mc) (hs : slots ≤ ms) (hdg : decode cc pc = .ok (.ireturn, 1)) :
    W p l e R s m args below meth c H locs cells slots (MQ below (pd_Q G pd_vm post) args s mc ms (fun q => G.2.1 ≤ q)) (F0 m pc ls [.int (pd_m v)]) := by
  obtain ⟨hx, hb, hr, hml, hown, hts, hlocks, hE⟩ := X
  refine W.widen hc hs ?_
  exact W.iret hx hb hr (fun t ht hW => ⟨⟨v, h, rfl, hp, by rw [ht]; exact w.1.moved hW.alike, w.2.1⟩, w.2.2.F ht⟩) w.2.2.2.2 hdg hlocks
theorem pd_cat (o : Option Nat) : (va_rf o).category = 1 := by cases o <;> rfl
variable {off : Int} {tgt : Nat}
theorem pd_mlt {o : Option Nat} (hx : p.tables.exec = Jvm.exec) (hb' : c.code = cc) (hdg : decode cc pc = .ok (.ifCond .lt off, 3)) (ht : (pc : Int) + off = (tgt : Int)) (ho : ∀ x, o = some x → x < 2 ^ 31) (kt : o = none → W p l e R s m args below meth c H locs cells slots Q (F0 m tgt ls rest)) (kf : ∀ x : Nat, o = some x → W p l e R s m args below meth c H locs cells slots Q (F0 m (pc + 3) ls rest)) : W p l e R s m args below meth c H locs cells slots Q (F0 m pc ls (.int (pd_m o) :: rest)) := by
  cases o with
  | none => exact lv_if_lt hx hb' hdg ht (fun _ => kt rfl) (fun q => absurd (by decide) q)
  | some x => exact lv_if_lt hx hb' hdg ht (fun q => absurd q (nI_pos (ho x rfl))) (fun _ => kf x rfl)
theorem pd_mge {o : Option Nat} (hx : p.tables.exec = Jvm.exec) (hb' : c.code = cc) (hdg : decode cc pc = .ok (.ifCond .ge off, 3)) (ht : (pc : Int) + off = (tgt : Int)) (ho : ∀ x, o = some x → x < 2 ^ 31) (kf : o = none → W p l e R s m args below meth c H locs cells slots Q (F0 m (pc + 3) ls rest)) (kt : ∀ x : Nat, o = some x → W p l e R s m args below meth c H locs cells slots Q (F0 m tgt ls rest)) : W p l e R s m args below meth c H locs cells slots Q (F0 m pc ls (.int (pd_m o) :: rest)) := by
  cases o with
  | none => exact lv_if_ge hx hb' hdg ht (fun q => absurd q (by decide)) (fun _ => kf rfl)
  | some x => exact lv_if_ge hx hb' hdg ht (fun _ => kt x rfl) (fun q => absurd (nI_pos' (ho x rfl)) q)
end PDX
section PDY
variable {p : Program} {l : Launch} {e : Env} {R : Room} {s : State} {m : MethodId} {args : Array Value} {below : List Frame} {meth : Method} {c : Code} {H : Heap} {locs : List Loc} {cells slots : Nat} {Q : State → Prop}
variable {cc : ByteArray} {pc nL index : Nat} {ls : Array Slot} {rest : List Value} {G : pd_G} {own : String} {ret : Option FieldType} {h : pd_H} {a : Nat}
theorem pd_top {v v' : Value} (q : v = v') (k : W p l e R s m args below meth c H locs cells slots Q (F0 m pc ls (v' :: rest))) : W p l e R s m args below meth c H locs cells slots Q (F0 m pc ls (v :: rest)) := q ▸ k
/-- a static of which nobody knows what it holds -/
theorem pd_getq {C n d : String} (X : pd_B p s m args meth c G own cc nL ret) (w : pd_w G s H locs h) (hz : va_Zq C n d (fun q => G.2.1 ≤ q) s s.heap) (hl : Cond.fieldLink own index C n d ∈ pd_T) (hdg : decode cc pc = .ok (.getstatic index, 3))
    (kk : ∀ o : Option Nat, W p l e R s m args below meth c H locs cells slots Q (F0 m (pc + 3) ls (va_rf o :: rest))) : W p l e R s m args below meth c H locs cells slots Q (F0 m pc ls rest) := by
  rcases hz with hz | ⟨t, hz⟩
  · exact va_gets X.1 X.2.1 hz w.2.2 X.2.2.2.2.1 (X.2.2.2.2.2.1 _ hl) (fun _ h => h) hdg (kk none)
  · exact va_gets X.1 X.2.1 hz w.2.2 X.2.2.2.2.1 (X.2.2.2.2.2.1 _ hl) (fun _ h => h) hdg (kk (some t))
theorem pd_fmt (X : pd_B p s m args meth c G own cc nL ret) : va_Zq "jdk/internal/util/Preconditions" "SIOOBE_FORMATTER" "Ljava/util/function/BiFunction;" (fun q => G.2.1 ≤ q) s s.heap := X.2.2.2.2.2.2.2.2.2.2.2.2.2.1
theorem pd_i2c {x : Nat} (hx : p.tables.exec = Jvm.exec) (hb : c.code = cc) (hdg : decode cc pc = .ok (.i2c, 1)) (hn : x < 65536) (k : W p l e R s m args below meth c H locs cells slots Q (F0 m (pc + 1) ls (.int (nI x) :: rest))) : W p l e R s m args below meth c H locs cells slots Q (F0 m pc ls (.int (nI x) :: rest)) :=
  lv_i2c (v := nI x) hx hb hdg (by rw [pk_char, pk_tn (by omega), Nat.mod_eq_of_lt hn]) k
theorem pd_ishr0 {x : Int32} (hx : p.tables.exec = Jvm.exec) (hb : c.code = cc) (hdg : decode cc pc = .ok (.ishr, 1)) (k : W p l e R s m args below meth c H locs cells slots Q (F0 m (pc + 1) ls (.int x :: rest))) : W p l e R s m args below meth c H locs cells slots Q (F0 m pc ls (.int (nI 0) :: .int x :: rest)) :=
  lv_ishr hx hb hdg (by rw [show nI 0 = 0 from rfl, sb_shr0]; exact k)
theorem pd_ishl0 {x : Int32} (hx : p.tables.exec = Jvm.exec) (hb : c.code = cc) (hdg : decode cc pc = .ok (.ishl, 1)) (k : W p l e R s m args below meth c H locs cells slots Q (F0 m (pc + 1) ls (.int x :: rest))) : W p l e R s m args below meth c H locs cells slots Q (F0 m pc ls (.int (nI 0) :: .int x :: rest)) :=
  lv_ishl hx hb hdg (by rw [show nI 0 = 0 from rfl, sb_shl0]; exact k)
/-- checkcast to an object's own class -/
theorem pd_castO {tg ci : Nat} {fs : List Value} {r : vw_C} (X : pd_B p s m args meth c G own cc nL ret) (w : pd_w G s H locs h) (ho : h a = some (tg, .inr (ci, fs))) (hc : vwCl[ci]? = some r) (hl : Cond.classLink own index r.1 ∈ pd_T) (hdg : decode cc pc = .ok (.checkcast index, 3))
    (k : W p l e R s m args below meth c H locs cells slots Q (F0 m (pc + 3) ls (.ref a :: rest))) : W p l e R s m args below meth c H locs cells slots Q (F0 m pc ls (.ref a :: rest)) :=
  va_castE X.1 X.2.1 X.2.2.2.2.1 (X.2.2.2.2.2.1 _ hl) (pd_recv X w ho hc) hdg k
theorem pd_instO {tg ci : Nat} {fs : List Value} {r : vw_C} (X : pd_B p s m args meth c G own cc nL ret) (w : pd_w G s H locs h) (ho : h a = some (tg, .inr (ci, fs))) (hc : vwCl[ci]? = some r) (hl : Cond.classLink own index r.1 ∈ pd_T) (hdg : decode cc pc = .ok (.instanceof index, 3))
    (k : W p l e R s m args below meth c H locs cells slots Q (F0 m (pc + 3) ls (.int (nI 1) :: rest))) : W p l e R s m args below meth c H locs cells slots Q (F0 m pc ls (.ref a :: rest)) :=
  va_instE X.1 X.2.1 X.2.2.2.2.1 (X.2.2.2.2.2.1 _ hl) (pd_recv X w ho hc) hdg k
/-- checkcast of a byte array of ours -/
theorem pd_castB {tg : Nat} {x : vp_A} (X : pd_B p s m args meth c G own cc nL ret) (w : pd_w G s H locs h) (ho : h a = some (tg, .inl (.byte, x))) (hz : G.2.1 ≤ a) (hl : Cond.classLink own index "[B" ∈ pd_T) (hdg : decode cc pc = .ok (.checkcast index, 3))
    (k : W p l e R s m args below meth c H locs cells slots Q (F0 m (pc + 3) ls (.ref a :: rest))) : W p l e R s m args below meth c H locs cells slots Q (F0 m pc ls (.ref a :: rest)) := by
  obtain ⟨cA, k1, k2, k3⟩ := (w.1.2 a _ ho).2 hz
  have k3 : H[a]? = some (vp_cell cA x) := k3
  refine va_castA (D := G.1) (cl := vwCl) (ws := [(a, .inl (cA, x))]) X.1 X.2.1 X.2.2.2.2.1 (X.2.2.2.2.2.1 _ hl) (fun i q hq => ?_) 0 rfl (va_nm_byte k2) hdg k
  have hz : i < 1 := (List.getElem?_eq_some_iff.mp hq).1
  rw [show i = 0 by omega] at hq
  cases hq
  exact k3
/-- System.arraycopy between byte arrays: the source may be a constant's -/
theorem pd_bcopy {t0 t1 a0 n0 n1 sp dp n : Nat} {f g : Nat → Int32} (X : pd_B p s m args meth c G own cc nL ret) (hsz : ls.size = nL) (w : pd_w G s H locs h) (h0 : h a0 = some (t0, .inl (.byte, n0, .inl f))) (h1 : h a = some (t1, .inl (.byte, n1, .inl g))) (hz : G.2.1 ≤ a) (hl : Cond.methodLink own index arraycopyName ∈ pd_T) (hnat : Cond.native arraycopyName ∈ pd_T) (hstat : Cond.static arraycopyName ∈ pd_T) (hini : Cond.initialized "java/lang/System" ∈ pd_T)
    (hs : sp + n ≤ n0) (hd : dp + n ≤ n1) (hb0 : n0 < 2 ^ 30) (hb1 : n1 < 2 ^ 30) (hfit : ∀ i, i < n → fits .byte (.int (f (sp + i))) = true) (hframes : 1 ≤ R.frames) (hlocals : (rest.map fun v => v.category).sum + (nativeFrameWords "java/lang/System" "arraycopy" 5 + 11) ≤ R.locals) (hdg : decode cc pc = .ok (.invokestatic index, 3))
    (kk : ∀ (H1 : Heap) (locs1 : List Loc), pd_w G s H1 locs1 (pd_up h a (t1, .inl (.byte, n1, .inl (va_cpy f g sp dp n)))) → W p l e R s m args below meth c H1 locs1 cells slots Q (F0 m (pc + 3) ls rest)) :
    W p l e R s m args below meth c H locs cells slots Q (F0 m pc ls (.int (nI n) :: .int (nI dp) :: .ref a :: .int (nI sp) :: .ref a0 :: rest)) := by
  obtain ⟨cA, k1, k2, k3⟩ := (w.1.2 a _ h1).2 hz
  have hc1 : H[a]? = some (vp_cell cA (n1, .inl g)) := k3
  obtain ⟨scr, hs1, hs2, hs3, hs4, -, hs5, -⟩ := (w.1.2 a0 _ h0).1
  have hs4 : n0 ≤ scr.slots.size := hs4
  have hs5 : ∀ j : Nat, j < n0 → scr.slots[j]? = some (.int (f j)) := hs5
  have hns : sp < 2 ^ 31 := by omega
  have hnd : dp < 2 ^ 31 := by omega
  have hnn : n < 2 ^ 31 := by omega
  intro T hT XX
  obtain ⟨hs6, q0, hk0, cm0, hkk0⟩ := hs2
  obtain ⟨-, q1, hk1, cm1, hkk1⟩ := k1 n1 (fun j => .int (g j))
  obtain ⟨vm', X', step⟩ := XX.arraycopy X.1 X.2.2.2.2.1 (X.2.2.2.2.2.1 _ hl) (X.2.2.2.2.2.1 _ hnat) (X.2.2.2.2.2.1 _ hstat) (X.2.2.2.2.2.1 _ hini) (src := a0) (dst := a) (cs := scr) (cd := vp_cell cA (n1, .inl g)) (srcPos := nI sp) (destPos := nI dp) (n := nI n) (by rw [hT]; exact hs1) (by rw [hT]; exact hc1)
    hs6 (fun _ h => by cases h) hs3 (fun h => by cases h) hk0 hk1 hkk0 hkk1 (by simp [refKind]) (nI_pos hns) (nI_pos hnd) (nI_pos hnn)
    (by rw [nI_toInt hns, nI_toInt hnn]; omega)
    (by rw [nI_toInt hnd, nI_toInt hnn]; show ¬ _ > ((arrV cA n1 (fun j => .int (g j))).slots.size : Int); rw [arrV_size]; omega)
    (fun vm₁ _ i hi => by
      rw [nI_clamp hnn] at hi
      have e : scr.slots.getD ((nI sp).toNatClampNeg + i) .null = .int (f (sp + i)) := by
        rw [nI_clamp hns, Array.getD_eq_getD_getElem?, hs5 _ (by omega)]
        rfl
      refine ⟨?_, ?_⟩
      · rw [e]
        exact hfit i hi
      · rw [e]
        exact trivial)
    (g := F0 m pc ls (.int (nI n) :: .int (nI dp) :: .ref a :: .int (nI sp) :: .ref a0 :: rest)) rfl (by rw [X.2.2.2.1]; exact hsz) (rest := rest) rfl (by rw [X.2.1]; exact hdg) hframes (by show 2 * 0 + _ + _ ≤ _; omega)
  have e1 : copied scr (vp_cell cA (n1, .inl g)) (nI sp) (nI dp) (nI n) = vp_cell cA (n1, .inl (va_cpy f g sp dp n)) := by
    have e2 := va_copiedX (fun z => .int z) scr cA (n1 := n1) (dp := (nI dp).toNatClampNeg) (sp := (nI sp).toNatClampNeg) (n := (nI n).toNatClampNeg) f g hs5 (by rw [nI_clamp hns, nI_clamp hnn]; exact hs)
    rw [nI_clamp hns, nI_clamp hnd, nI_clamp hnn] at e2
    unfold copied
    rw [nI_clamp hns, nI_clamp hnd, nI_clamp hnn]
    exact e2
  rw [e1] at X' step
  have hlt : a < H.size := (Array.getElem?_eq_some_iff.mp hc1).1
  have hheap : ((T.setVm vm').setCell a (vp_cell cA (n1, .inl (va_cpy f g sp dp n)))).heap = H.setIfInBounds a (vp_cell cA (n1, .inl (va_cpy f g sp dp n))) := by rw [← hT]; rfl
  have oq : ∀ q : Nat, q ≠ a → (H.setIfInBounds a (vp_cell cA (n1, .inl (va_cpy f g sp dp n))))[q]? = H[q]? := fun q hq => by simp [Array.getElem?_setIfInBounds, Ne.symm hq]
  obtain ⟨t, a1, b1⟩ := kk _ _ ⟨w.1.put (c := (t1, .inl (.byte, n1, .inl (va_cpy f g sp dp n)))) ⟨cA, k1, k2, (show (H.setIfInBounds a _)[a]? = some _ by simp [Array.getElem?_setIfInBounds, hlt])⟩ (by simp) oq, w.2.1.put X.2.2.2.2.2.2.2.2.2.1 hz, by simp; exact w.2.2.1, fun q g1 g2 => by
      rw [oq q (fun e => g2 (by rw [e]; exact hz))]
      exact w.2.2.2.1 q g1 g2, fun q hq => by
      rcases List.mem_append.mp hq with h | h
      · exact w.2.2.2.2 q h
      · obtain ⟨z, -, hz2⟩ := List.mem_map.mp h
        rw [← hz2]
        exact hz⟩ _ hheap X'
  exact ⟨t, step t a1, b1⟩
/-- clone of a byte array of ours -/
theorem pd_bclone {t1 n : Nat} {f : Nat → Int32} (tg : Nat) (X : pd_B p s m args meth c G own cc nL ret) (hsz : ls.size = nL) (w : pd_w G s H locs h) (h1 : h a = some (t1, .inl (.byte, n, .inl f))) (hz : G.2.1 ≤ a) (hlink : Cond.methodLink own index ⟨"[B", "clone", "()Ljava/lang/Object;"⟩ ∈ pd_T) (hsame : Cond.sameMethod "[B" "java/lang/Object" "clone" "()Ljava/lang/Object;" ∈ pd_T) (hnat : Cond.native ⟨"java/lang/Object", "clone", "()Ljava/lang/Object;"⟩ ∈ pd_T) (hinst : Cond.instanceMethod ⟨"java/lang/Object", "clone", "()Ljava/lang/Object;"⟩ ∈ pd_T) (hsel : Cond.selects "[B" ⟨"[B", "clone", "()Ljava/lang/Object;"⟩ ⟨"java/lang/Object", "clone", "()Ljava/lang/Object;"⟩ ∈ pd_T) (hcl : Cond.castable "[B" "java/lang/Cloneable" ∈ pd_N)
    (hfit : ∀ i, i < n → fits .byte (.int (f i)) = true) (hframes : 1 ≤ R.frames) (hlocals : (rest.map fun v => v.category).sum + 14 ≤ R.locals) (hcells : cells + 1 ≤ R.cells) (hslots : slots + n ≤ R.slots) (hdg : decode cc pc = .ok (.invokevirtual index, 3))
    (kk : ∀ (q : Nat) (H1 : Heap), h q = none → G.2.1 ≤ q → pd_w G s H1 locs (pd_up h q (tg, .inl (.byte, n, .inl f))) → W p l e R s m args below meth c H1 locs (cells + 1) (slots + n) Q (F0 m (pc + 3) ls (.ref q :: rest))) : W p l e R s m args below meth c H locs cells slots Q (F0 m pc ls (.ref a :: rest)) := by
  obtain ⟨cA, k1, k2, k3⟩ := (w.1.2 a _ h1).2 hz
  have k3 : H[a]? = some (vp_cell cA (n, .inl f)) := k3
  have hnm := va_nm_byte k2
  have hts := X.2.2.2.2.2.1
  have hsz0 : (vp_cell cA (n, .inl f)).slots.size = n := arrV_size _ _ _
  obtain ⟨c0, t0', f1, f2, f3⟩ := Cond.castable_spec (X.nw hcl)
  cases hnm.symm.trans f1
  intro T hT XX
  have hcellT : T.heap[a]? = some (vp_cell cA (n, .inl f)) := by rw [hT]; exact k3
  obtain ⟨-, kA, hkA, comp, hkind⟩ := State.isArrayOf_alike XX.warmed.alike (k1 0 (fun _ => .null))
  obtain ⟨-, kS, hkS, compS, hkindS⟩ := k1 0 (fun _ => .null)
  obtain ⟨vm', X', st⟩ := XX.cloneArray X.1 X.2.2.2.2.1 (hts _ hlink) (hts _ hsame) (hts _ hnat) (hts _ hinst) (hts _ hsel) (a := a) (cell := vp_cell cA (n, .inl f)) hcellT (fun k h => by cases h) (fun h => by cases h) hnm f2 f3
    (fun i v hv => by
      have hk' : T.vm.classes[cA]? = some kA := hkA
      have hfv : fits .byte v = true := by
        have hv : (arrV cA n (fun j => .int (f j))).slots[i]? = some v := hv
        have hi : i < n := by
          have := (Array.getElem?_eq_some_iff.mp hv).1
          rw [arrV_size] at this
          exact this
        rw [arrV_read _ _ hi] at hv
        cases hv
        exact hfit i hi
      show T.fitsSlot cA .none i v = true
      simpa [State.fitsSlot, State.slotType?, hk', hkind] using hfv)
    (g := F0 m pc ls (.ref a :: rest)) rfl (by rw [X.2.2.2.1]; exact hsz) rfl (by rw [X.2.1]; exact hdg) hframes (by show 2 * 0 + _ + 14 ≤ _; omega) hcells (by rw [hsz0]; exact hslots) (hloader := Vm.clonesLoader_of_array hkS hkindS)
  rw [hsz0] at X'
  generalize hH1 : H.push (vp_cell cA (n, .inl f)) = H1
  have z1 : H1.size = H.size + 1 := by rw [← hH1, Array.size_push]
  have e1 : H1[H.size]? = some (vp_cell cA (n, .inl f)) := by rw [← hH1, Array.getElem?_push_size]
  have o1 : ∀ q : Nat, q < H.size → H1[q]? = H[q]? := fun q hq => by rw [← hH1, Array.getElem?_push, if_neg (Nat.ne_of_lt hq)]
  obtain ⟨t, b1, b2⟩ := kk H.size H1 (w.1.out (Nat.le_refl _)) w.1.1 ⟨w.1.new (c := (tg, .inl (.byte, n, .inl f))) ⟨cA, k1, k2, e1⟩ z1 o1, w.2.1.le (pd_up_le (w.1.out (Nat.le_refl _))), Nat.le_trans w.2.2.1 (by omega), fun y h1 h2 => (o1 y (Nat.lt_of_lt_of_le h1 w.2.2.1)).trans (w.2.2.2.1 y h1 h2), w.2.2.2.2⟩
    ((T.setVm vm').pushCell (vp_cell cA (n, .inl f))) (by rw [← hH1, ← hT]; rfl) X'
  refine ⟨t, st t ?_, b2⟩
  rw [hT]
  exact b1
/-- what a new object's fields hold -/
theorem pd_hfs {T : u_T} {N : Nat} {fs : List Value} (q : ∀ j ∈ List.range N, (parseFieldDescriptor (T j).2.2.1).map defaultValue = some (vp_V fs j)) : ∀ j, j < N → ∃ ty, parseFieldDescriptor (T j).2.2.1 = some ty ∧ defaultValue ty = vp_V fs j := by
  intro j hj
  have h1 := q j (List.mem_range.mpr hj)
  cases hp : parseFieldDescriptor (T j).2.2.1 with
  | none => rw [hp] at h1; cases h1
  | some ty => rw [hp] at h1; exact ⟨ty, rfl, Option.some.inj h1⟩
end PDY
section PDZ
variable {p : Program} {l : Launch} {e : Env} {R : Room} {s : State} {m : MethodId} {args : Array Value} {below : List Frame} {meth : Method} {c : Code} {H : Heap} {locs : List Loc} {cells slots : Nat} {Q : State → Prop}
variable {cc : ByteArray} {pc nL index : Nat} {ls : Array Slot} {rest : List Value} {G : pd_G} {own : String} {ret : Option FieldType}
theorem pd_mmin {x y : Nat} (X : pd_B p s m args meth c G own cc nL ret) (hsz : ls.size = nL) (hx : x < 2 ^ 31) (hy : y < 2 ^ 31) (hl : Cond.methodLink own index Lib.Math.min.name ∈ pd_T) (hstat : Cond.static Lib.Math.min.name ∈ pd_T) (hini : Cond.initialized "java/lang/Math" ∈ pd_T) (hcode : Cond.code Lib.Math.min.name Lib.Math.min.code 2 (some .int) ∈ pd_T) (hframes : 1 ≤ R.frames) (hlocals : (rest.map fun v => v.category).sum + 13 ≤ R.locals) (hc : cells ≤ R.cells) (hs : slots ≤ R.slots) (hdg : decode cc pc = .ok (.invokestatic index, 3))
    (kk : W p l e R s m args below meth c H locs cells slots Q (F0 m (pc + 3) ls (.int (nI (min x y)) :: rest))) : W p l e R s m args below meth c H locs cells slots Q (F0 m pc ls (.int (nI y) :: .int (nI x) :: rest)) := by
  refine va_mmin X.1 X.2.1 (X.2.2.2.1.trans hsz.symm) X.2.2.2.2.1 (X.2.2.2.2.2.1 _ hl) (X.2.2.2.2.2.1 _ hstat) (X.2.2.2.2.2.1 _ hini) (X.2.2.2.2.2.1 _ hcode) hframes hlocals hc hs hdg ?_
  have q : (if nI y < nI x then nI y else nI x) = nI (min x y) := by
    by_cases hlt : y < x
    · rw [if_pos ((nI_ltI hy hx).mpr hlt), Nat.min_eq_right (by omega)]
    · rw [if_neg (fun z => hlt ((nI_ltI hy hx).mp z)), Nat.min_eq_left (by omega)]
  rw [q]
  exact kk
theorem pd_mmax {x y : Nat} (X : pd_B p s m args meth c G own cc nL ret) (hsz : ls.size = nL) (hx : x < 2 ^ 31) (hy : y < 2 ^ 31) (hl : Cond.methodLink own index Lib.Math.max.name ∈ pd_T) (hstat : Cond.static Lib.Math.max.name ∈ pd_T) (hini : Cond.initialized "java/lang/Math" ∈ pd_T) (hcode : Cond.code Lib.Math.max.name Lib.Math.max.code 2 (some .int) ∈ pd_T) (hframes : 1 ≤ R.frames) (hlocals : (rest.map fun v => v.category).sum + 13 ≤ R.locals) (hc : cells ≤ R.cells) (hs : slots ≤ R.slots) (hdg : decode cc pc = .ok (.invokestatic index, 3))
    (kk : W p l e R s m args below meth c H locs cells slots Q (F0 m (pc + 3) ls (.int (nI (max x y)) :: rest))) : W p l e R s m args below meth c H locs cells slots Q (F0 m pc ls (.int (nI y) :: .int (nI x) :: rest)) := by
  refine va_mmax X.1 X.2.1 (X.2.2.2.1.trans hsz.symm) X.2.2.2.2.1 (X.2.2.2.2.2.1 _ hl) (X.2.2.2.2.2.1 _ hstat) (X.2.2.2.2.2.1 _ hini) (X.2.2.2.2.2.1 _ hcode) hframes hlocals hc hs hdg ?_
  have q : (if nI x < nI y then nI y else nI x) = nI (max x y) := by
    by_cases hlt : x < y
    · rw [if_pos ((nI_ltI hx hy).mpr hlt), Nat.max_eq_right (by omega)]
    · rw [if_neg (fun z => hlt ((nI_ltI hx hy).mp z)), Nat.max_eq_left (by omega)]
  rw [q]
  exact kk
end PDZ
/-! what a step keeps: every cell but the one at a -/
def pd_kq (a : Nat) (h h' : pd_H) : Prop := ∀ (x : Nat) (c : pd_C), x ≠ a → h x = some c → h' x = some c
theorem pd_kq.rf {a : Nat} {h : pd_H} : pd_kq a h h := fun _ _ _ q => q
theorem pd_kq.tr {a : Nat} {h1 h2 h3 : pd_H} (k : pd_kq a h1 h2) (k2 : pd_kq a h2 h3) : pd_kq a h1 h3 := fun x c n q => k2 x c n (k x c n q)
theorem pd_up_kq {a : Nat} {h : pd_H} {c : pd_C} : pd_kq a h (pd_up h a c) := fun x d n q => by rw [pd_up_n n]; exact q
theorem pd_kx.kq {a : Nat} {h h' : pd_H} (k : pd_kx [] h h') : pd_kq a h h' := fun x c _ q => k x c q List.not_mem_nil
theorem pd_ne {h : pd_H} {a b : Nat} {c1 c2 : pd_C} (f1 : h b = some c1) (f2 : h a = some c2) (n : c1 ≠ c2) : b ≠ a := fun z => n (by rw [z, f2] at f1; exact (Option.some.inj f1).symm)
theorem pd_nn {h : pd_H} {a b : Nat} {c1 : pd_C} (f1 : h b = some c1) (f2 : h a = none) : b ≠ a := fun z => by rw [z, f2] at f1; cases f1
theorem pd_kq.kx {a t : Nat} {x : (FieldType × vp_A) ⊕ (Nat × List Value)} {h h' : pd_H} (k : pd_kq a h h') (f : h a = some (t, x)) : pd_kx [t] h h' := fun b c q n => k b c (fun z => by rw [z, f] at q; cases q; exact n (List.mem_singleton.mpr rfl)) q
theorem pd_kq.new {ts : List Nat} {a : Nat} {c : pd_C} {h hB h' : pd_H} (hq : h a = none) (k0 : pd_kx [] (pd_up h a c) hB) (k : pd_kq a hB h') : pd_kx ts h h' := by
  intro x d hx _
  have hn : x ≠ a := pd_nn hx hq
  exact k x d hn (k0 x d (by rw [pd_up_n hn]; exact hx) List.not_mem_nil)
theorem pd_kx.none {h h' : pd_H} {a : Nat} (k : pd_kx [] h h') (q : h' a = none) : h a = none := by
  cases e : h a with
  | none => rfl
  | some c => have := k a c e List.not_mem_nil; rw [q] at this; cases this
/-- the cell is no String's and no bytes' under the mark 0 -/
def pd_ns (c : pd_C) : Prop := (∀ fs, c ≠ (0, .inr (12, fs))) ∧ ∀ n f, c ≠ (0, .inl (.byte, n, .inl f))
theorem pd_Str.kq {h h' : pd_H} {a b : Nat} {cs : List Nat} {ca : pd_C} (q : pd_Str h b cs) (k : pd_kq a h h') (fa : h a = some ca) (n : pd_ns ca) : pd_Str h' b cs := by
  obtain ⟨v, f, h1, h2, h3⟩ := q
  exact ⟨v, f, k _ _ (pd_ne h1 fa (fun z => n.1 _ z.symm)) h1, k _ _ (pd_ne h2 fa (fun z => n.2 _ _ z.symm)) h2, h3⟩
theorem pd_kq.nw {ts : List Nat} {a : Nat} {h hn h' : pd_H} (hq : h a = none) (k0 : pd_kx [] h hn) (k : pd_kq a hn h') : pd_kx ts h h' := fun x d hx _ => k x d (pd_nn hx hq) (k0 x d hx List.not_mem_nil)
theorem mT_71 : Jvm.Cond.superclass "java/lang/StringBuilder" "java/lang/AbstractStringBuilder" ∈ pd_T := pd_in 120 (by decide +kernel) rfl
/-! super.m(..) -/
section PDU
variable {p : Program} {l : Launch} {e : Env} {R : Room} {s : State} {m : MethodId} {args : Array Value} {below : List Frame} {meth : Method} {c : Code} {H : Heap} {locs : List Loc} {cells slots : Nat} {Q : State → Prop}
variable {cc : ByteArray} {pc nL : Nat} {ls : Array Slot} {rest st0 : List Value} {G : pd_G} {own : String} {ret : Option FieldType} {h : pd_H} {mc ms : Nat}
variable {y : MethodName} {b : ByteArray} {maxL n index : Nat} {rt : Option FieldType} {rm : Room} {As : List Value} {a : Nat}
theorem pd_callW (X : pd_B p s m args meth c G own cc nL ret) (ok : pd_ok y b maxL rt n) (hno : y.name ≠ "<init>") (hst : Cond.instanceMethod y ∈ pd_T ∧ Cond.superclass own y.cls ∈ pd_T ∧ Cond.sameMethod y.cls y.cls y.name y.desc ∈ pd_T) (hl : Cond.methodLink own index y ∈ pd_T) (hR : rm.frames + 1 ≤ R.frames ∧ 8 + (maxL + 11) + rm.locals ≤ R.locals) :
    va_CS R s args own index y b maxL rt (.code y b maxL rt :: pd_T) rm rm.cells rm.slots n := by
  obtain ⟨hx, hb, hr, hml, hown, hts, hlocks, hE⟩ := X
  obtain ⟨k1, k2, k3, k4⟩ := ok
  refine ⟨⟨rfl, rfl, hR.1, hR.2, fun w hw a' U hW => ?_, List.mem_cons_self⟩, hts _ hl, hts _ hst.2.2, hts _ hst.2.1, hts _ hst.1, hts _ k2, hts _ k1, hno, fun sig hs => ?_⟩
  · rcases List.mem_cons.mp hw with e | e
    · rw [e]; exact word_at hW (pd_T_good _ k1) (hts _ k1)
    · exact word_at hW (pd_T_good _ e) (hts _ e)
  · rw [hs] at k4
    exact (Option.some.inj k4).symm
theorem pd_cW {α : Type} {mk : α → Value} {post : α → pd_H → Prop} {tg ci : Nat} {fs : List Value} {r0 : vw_C} (X : pd_B p s m args meth c G own cc nL ret) (w : pd_w G s H locs h) (ho : h a = some (tg, .inr (ci, fs))) (hc : vwCl[ci]? = some r0) (hM : pd_M l y b maxL rt rm G h (.ref a :: As) mk post) (ok : pd_ok y b maxL rt n) (hno : y.name ≠ "<init>") (hst : Cond.instanceMethod y ∈ pd_T ∧ Cond.superclass own y.cls ∈ pd_T ∧ Cond.sameMethod y.cls y.cls y.name y.desc ∈ pd_T) (hl : Cond.methodLink own index y ∈ pd_T) (hR : rm.frames + 1 ≤ R.frames ∧ 8 + (maxL + 11) + rm.locals ≤ R.locals)
    (hn : As.length = n) (hsz : ls.size = nL) (hstack : st0 = As.reverse ++ .ref a :: rest) (hW : (rest.map fun v => v.category).sum ≤ 8) (hdg : decode cc pc = .ok (.invokespecial index, 3)) (hf : cells + rm.cells ≤ R.cells ∧ slots + rm.slots ≤ R.slots)
    (kk : ∀ (r : α) (h' : pd_H) (H1 : Heap) (locs1 : List Loc), post r h' → pd_w G s H1 locs1 h' → W p l e R s m args below meth c H1 locs1 (cells + rm.cells) (slots + rm.slots) Q (F0 m (pc + 3) ls (mk r :: rest))) : W p l e R s m args below meth c H locs cells slots Q (F0 m pc ls st0) :=
  pd_run (va_runSU (C := r0.1) (X.2.2.2.2.2.2.2.1.1 ci r0 hc).2 (pd_fix X) hM (pd_callW X ok hno hst hl hR) (pd_preV X w ho hc) rfl hn hsz hstack (lv_room hW) hdg hf) w kk
theorem pd_cWv {post : pd_H → Prop} {tg ci : Nat} {fs : List Value} {r0 : vw_C} (X : pd_B p s m args meth c G own cc nL ret) (w : pd_w G s H locs h) (ho : h a = some (tg, .inr (ci, fs))) (hc : vwCl[ci]? = some r0) (hM : pd_Mv l y b maxL rm G h (.ref a :: As) post) (ok : pd_ok y b maxL none n) (hno : y.name ≠ "<init>") (hst : Cond.instanceMethod y ∈ pd_T ∧ Cond.superclass own y.cls ∈ pd_T ∧ Cond.sameMethod y.cls y.cls y.name y.desc ∈ pd_T) (hl : Cond.methodLink own index y ∈ pd_T) (hR : rm.frames + 1 ≤ R.frames ∧ 8 + (maxL + 11) + rm.locals ≤ R.locals)
    (hn : As.length = n) (hsz : ls.size = nL) (hstack : st0 = As.reverse ++ .ref a :: rest) (hW : (rest.map fun v => v.category).sum ≤ 8) (hdg : decode cc pc = .ok (.invokespecial index, 3)) (hf : cells + rm.cells ≤ R.cells ∧ slots + rm.slots ≤ R.slots)
    (kk : ∀ (h' : pd_H) (H1 : Heap) (locs1 : List Loc), post h' → pd_w G s H1 locs1 h' → W p l e R s m args below meth c H1 locs1 (cells + rm.cells) (slots + rm.slots) Q (F0 m (pc + 3) ls rest)) : W p l e R s m args below meth c H locs cells slots Q (F0 m pc ls st0) :=
  pd_runv (va_runSU (C := r0.1) (X.2.2.2.2.2.2.2.1.1 ci r0 hc).2 (pd_fix X) hM (pd_callW X ok hno hst hl hR) (pd_preV X w ho hc) rfl hn hsz hstack (lv_room hW) hdg hf) w kk
end PDU
/-! branches on a difference of small numbers -/
section PDS
variable {p : Program} {l : Launch} {e : Env} {R : Room} {s : State} {m : MethodId} {args : Array Value} {below : List Frame} {meth : Method} {c : Code} {H : Heap} {locs : List Loc} {cells slots : Nat} {Q : State → Prop}
variable {cc : ByteArray} {pc : Nat} {ls : Array Slot} {rest : List Value} {a b : Nat} {off : Int} {tgt : Nat}
theorem pd_sub_le {a b : Nat} (ha : a < 2 ^ 30) (hb : b < 2 ^ 30) : nI a - nI b ≤ 0 ↔ a ≤ b := by
  rw [Int32.le_iff_toInt_le, pk_sub_toInt ha hb, Int32.toInt_zero]
  omega
theorem pd_sub_lt {a b : Nat} (ha : a < 2 ^ 30) (hb : b < 2 ^ 30) : nI a - nI b < 0 ↔ a < b := by
  rw [Int32.lt_iff_toInt_lt, pk_sub_toInt ha hb, Int32.toInt_zero]
  omega
theorem pd_sle (hx : p.tables.exec = Jvm.exec) (hb' : c.code = cc) (hdg : decode cc pc = .ok (.ifCond .le off, 3)) (ht : (pc : Int) + off = (tgt : Int)) (ha : a < 2 ^ 30) (hb : b < 2 ^ 30) (kt : a ≤ b → W p l e R s m args below meth c H locs cells slots Q (F0 m tgt ls rest)) (kf : b < a → W p l e R s m args below meth c H locs cells slots Q (F0 m (pc + 3) ls rest)) : W p l e R s m args below meth c H locs cells slots Q (F0 m pc ls (.int (nI a - nI b) :: rest)) :=
  lv_if_le hx hb' hdg ht (fun q => kt ((pd_sub_le ha hb).mp q)) (fun q => kf (Nat.not_le.mp (fun z => q ((pd_sub_le ha hb).mpr z))))
end PDS
/-! a call that an overriding method answers -/
section PDO
variable {p : Program} {l : Launch} {e : Env} {R : Room} {s : State} {m : MethodId} {args : Array Value} {below : List Frame} {meth : Method} {c : Code} {H : Heap} {locs : List Loc} {cells slots : Nat} {Q : State → Prop}
variable {cc : ByteArray} {pc nL : Nat} {ls : Array Slot} {rest st0 : List Value} {G : pd_G} {own : String} {ret : Option FieldType} {h : pd_H} {mc ms : Nat}
variable {y : MethodName} {b : ByteArray} {maxL n index : Nat} {rt : Option FieldType} {rm : Room} {As : List Value} {a : Nat}
theorem pd_callO {x : MethodName} {C owner : String} {b0 : ByteArray} {m0 : Nat} {r0 : Option FieldType} (X : pd_B p s m args meth c G own cc nL ret) (ok : pd_ok y b maxL rt n) (hyx : y.desc = x.desc) (how : owner ≠ "java/lang/invoke/MethodHandle" ∧ owner ≠ "java/lang/invoke/VarHandle") (hst : Cond.instanceMethod y ∈ pd_T ∧ (Cond.selects C x y).before args s = true ∧ Cond.sameMethod x.cls owner x.name x.desc ∈ pd_T) (hd : Cond.instanceMethod ⟨owner, x.name, x.desc⟩ ∈ pd_T ∧ Cond.code ⟨owner, x.name, x.desc⟩ b0 m0 r0 ∈ pd_T) (hl : Cond.methodLink own index x ∈ pd_T) (hR : rm.frames + 1 ≤ R.frames ∧ 8 + (maxL + 11) + rm.locals ≤ R.locals) :
    va_CU R s args own C owner index x y b maxL rt (.code y b maxL rt :: pd_T) rm rm.cells rm.slots n := by
  obtain ⟨hx, hb, hr, hml, hown, hts, hlocks, hE⟩ := X
  obtain ⟨k1, k2, k3, k4⟩ := ok
  refine ⟨⟨rfl, rfl, hR.1, hR.2, fun w hw a' U hW => ?_, List.mem_cons_self⟩, hts _ k1, hts _ k2, how, fun sig hs => ?_, hts _ hl, hts _ hst.2.2, va_Decl.of (hts _ hd.1) (hts _ hd.2), hst.2.1, hts _ hst.1⟩
  · rcases List.mem_cons.mp hw with e | e
    · rw [e]; exact word_at hW (pd_T_good _ k1) (hts _ k1)
    · exact word_at hW (pd_T_good _ e) (hts _ e)
  · rw [hyx, hs] at k4
    exact (Option.some.inj k4).symm
theorem pd_cO {x : MethodName} {owner : String} {b0 : ByteArray} {m0 : Nat} {r1 : Option FieldType} {α : Type} {mk : α → Value} {post : α → pd_H → Prop} {tg ci : Nat} {fs : List Value} {r0 : vw_C} (X : pd_B p s m args meth c G own cc nL ret) (w : pd_w G s H locs h) (ho : h a = some (tg, .inr (ci, fs))) (hc : vwCl[ci]? = some r0) (hM : pd_M l y b maxL rt rm G h (.ref a :: As) mk post) (ok : pd_ok y b maxL rt n) (hyx : y.desc = x.desc) (how : owner ≠ "java/lang/invoke/MethodHandle" ∧ owner ≠ "java/lang/invoke/VarHandle") (hst : Cond.instanceMethod y ∈ pd_T ∧ (Cond.selects r0.1 x y).before args s = true ∧ Cond.sameMethod x.cls owner x.name x.desc ∈ pd_T) (hd : Cond.instanceMethod ⟨owner, x.name, x.desc⟩ ∈ pd_T ∧ Cond.code ⟨owner, x.name, x.desc⟩ b0 m0 r1 ∈ pd_T) (hl : Cond.methodLink own index x ∈ pd_T) (hR : rm.frames + 1 ≤ R.frames ∧ 8 + (maxL + 11) + rm.locals ≤ R.locals)
    (hn : As.length = n) (hsz : ls.size = nL) (hstack : st0 = As.reverse ++ .ref a :: rest) (hW : (rest.map fun v => v.category).sum ≤ 8) (hdg : decode cc pc = .ok (.invokevirtual index, 3)) (hf : cells + rm.cells ≤ R.cells ∧ slots + rm.slots ≤ R.slots)
    (kk : ∀ (r : α) (h' : pd_H) (H1 : Heap) (locs1 : List Loc), post r h' → pd_w G s H1 locs1 h' → W p l e R s m args below meth c H1 locs1 (cells + rm.cells) (slots + rm.slots) Q (F0 m (pc + 3) ls (mk r :: rest))) : W p l e R s m args below meth c H locs cells slots Q (F0 m pc ls st0) :=
  pd_run (va_runU (C := r0.1) (pd_fix X) hM (pd_callO X ok hyx how hst hd hl hR) (pd_preV X w ho hc) rfl hn hsz hstack (lv_room hW) hdg hf) w kk
end PDO
