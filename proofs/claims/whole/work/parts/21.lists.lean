/-! lists of rows: a field through an heir's name, class objects, copies of references -/
section PDAL
variable {p : Program} {l : Launch} {e : Env} {R : Room} {s : State} {m : MethodId} {args : Array Value} {below : List Frame} {meth : Method} {c : Code} {H : Heap} {locs : List Loc} {cells slots : Nat} {Q : State → Prop}
variable {cc : ByteArray} {pc nL index : Nat} {ls : Array Slot} {rest st0 : List Value} {G : pd_G} {own : String} {ret : Option FieldType} {h : pd_H} {a : Nat} {tg ci : Nat} {fs : List Value} {C : String} {T : u_T} {N : Nat} {ref : String} {v : Value}
theorem pd_getS (X : pd_B p s m args meth c G own cc nL ret) (w : pd_w G s H locs h) (ho : h a = some (tg, .inr (ci, fs))) (hc : vwCl[ci]? = some (C, T, N)) (k : Nat) (hk : k < N) (hl : Cond.fieldLink own index ref (T k).2.1 (T k).2.2.1 ∈ pd_T) (hsf : Cond.sameField ref (T k).1 (T k).2.1 (T k).2.2.1 ∈ pd_T) (hv : fs[k]? = some v) (hdg : decode cc pc = .ok (.getfield index, 3))
    (kk : W p l e R s m args below meth c H locs cells slots Q (F0 m (pc + 3) ls (v :: rest))) : W p l e R s m args below meth c H locs cells slots Q (F0 m pc ls (.ref a :: rest)) := by
  obtain ⟨hx, hb, hr, hml, hown, hts, hlocks, hE⟩ := X
  obtain ⟨r, cell, h1, q1, q2, q3, q4, q5⟩ := (w.1.2 a _ ho).1
  have hr : r = (C, T, N) := Option.some.inj (h1.symm.trans hc)
  subst hr
  obtain ⟨hS, hfc, kC, hkC, hkind⟩ := hE.1.1 ci _ hc
  obtain ⟨cf, kf, fi, f, hi, hsl⟩ := hS k hk
  refine W.getf hx hb hown (hts _ hl) (u_same (hts _ hsf) _ hi) (u_facts hfc hkC (u_lays hts (pd_lays hc) hk) hi).1 q1 q4 (v := v) ?_ rfl rfl hdg kk
  rw [hsl, q5 k hk]
  simp [vp_V, hv]
theorem pd_putS {ty : FieldType} (X : pd_B p s m args meth c G own cc nL ret) (w : pd_w G s H locs h) (ho : h a = some (tg, .inr (ci, fs))) (hz : G.2.1 ≤ a) (hc : vwCl[ci]? = some (C, T, N)) (k : Nat) (hk : k < N) (hl : Cond.fieldLink own index ref (T k).2.1 (T k).2.2.1 ∈ pd_T) (hsf : Cond.sameField ref (T k).1 (T k).2.1 (T k).2.2.1 ∈ pd_T) (hfin : (T k).2.2.2 = false) (hd : parseFieldDescriptor (T k).2.2.1 = some ty) (hn : narrow ty v = v) (hfit : fits ty v = true) (hlen : k < fs.length) (hdg : decode cc pc = .ok (.putfield index, 3))
    (kk : ∀ (H1 : Heap) (locs1 : List Loc), pd_w G s H1 locs1 (pd_up h a (tg, .inr (ci, fs.set k v))) → W p l e R s m args below meth c H1 locs1 cells slots Q (F0 m (pc + 3) ls rest)) : W p l e R s m args below meth c H locs cells slots Q (F0 m pc ls (v :: .ref a :: rest)) := by
  obtain ⟨hx, hb, hr, hml, hown, hts, hlocks, hE⟩ := X
  have hap := pd_apart hts (pd_lays hc) (pd_types hc) (pd_names hc) hE.1 hc
  obtain ⟨r, h1, cell, q1, q2, q3, q4⟩ := (w.1.2 a _ ho).2 hz
  have hr : r = (C, T, N) := Option.some.inj (h1.symm.trans hc)
  subst hr
  obtain ⟨hS, hfc, kC, hkC, hkind⟩ := hE.1.1 ci _ hc
  obtain ⟨cf, kf, fi, f, hi, hsl⟩ := hS k hk
  have hlay := hts _ (pd_lays hc _ (u_in_lay hk))
  unfold u_lay at hlay
  rw [if_neg (by rw [hfin]; decide)] at hlay
  have hst := (u_facts hfc hkC (u_lays hts (pd_lays hc) hk) hi).1
  have h6 := u_store hfc hkC hkind hlay hi hd hn hfit
  refine W.putK hx hb (f := f) ⟨hown, hts _ hl, ⟨_, _, _, u_same (hts _ hsf) _ hi⟩, hst⟩ (by rw [q2]; exact h6) q1 q3 (by rw [hsl]; exact k2_hasslot (q4 k hk)) rfl rfl hdg fun H' e1 e2 e3 => ?_
  rw [hsl] at e1 ⊢
  exact kk H' _ ⟨w.1.put (c := (tg, .inr (ci, fs.set k v))) ⟨_, hc, t_OB.to (V := updV (vp_V fs) k v) ⟨_, e1, q2, q3, t_set q4 hap hk v⟩ (fun j _ => vp_updV_set hlen v j)⟩ e2 e3, w.2.1.put hE.2.2.1 hz, w.2.2.put e2 e3 hz⟩
theorem pd_getC {t1 : Nat} {x : vp_A} (X : pd_B p s m args meth c G own cc nL ret) (hsz : ls.size = nL) (w : pd_w G s H locs h) (ho : h a = some (t1, .inl (.object "java/lang/Object", x))) (hz : G.2.1 ≤ a) (hl : Cond.methodLink own index ⟨"java/lang/Object", "getClass", "()Ljava/lang/Class;"⟩ ∈ pd_T) (hd : Cond.declares ⟨"java/lang/Object", "getClass", "()Ljava/lang/Class;"⟩ ∈ pd_N) (hsel : Cond.selects "[Ljava/lang/Object;" ⟨"java/lang/Object", "getClass", "()Ljava/lang/Class;"⟩ ⟨"java/lang/Object", "getClass", "()Ljava/lang/Class;"⟩ ∈ pd_T) (hin : Cond.instanceMethod ⟨"java/lang/Object", "getClass", "()Ljava/lang/Class;"⟩ ∈ pd_T) (hna : Cond.native ⟨"java/lang/Object", "getClass", "()Ljava/lang/Class;"⟩ ∈ pd_T) (hframes : 1 ≤ R.frames) (hlocals : (rest.map fun v => v.category).sum + 14 ≤ R.locals) (hdg : decode cc pc = .ok (.invokevirtual index, 3))
    (k : W p l e R s m args below meth c H locs cells slots Q (F0 m (pc + 3) ls (.ref (G.2.2.2 5) :: rest))) : W p l e R s m args below meth c H locs cells slots Q (F0 m pc ls (.ref a :: rest)) := by
  obtain ⟨cA, k1, k2, k3⟩ := (w.1.2 a _ ho).2 hz
  have k3 : H[a]? = some (vp_cell cA x) := k3
  have hts := X.2.2.2.2.2.1
  refine va_getC X.1 X.2.1 (X.2.2.2.1.trans hsz.symm) X.2.2.2.2.1 (hts _ hl) (X.nw hd) (hts _ hsel) (hts _ hin) (hts _ hna) X.mi ⟨_, k3, ?_, ?_⟩ hframes hlocals hdg k
  · rw [pd_cell_el]; rfl
  · rw [pd_cell_el]; exact va_nmO k2 rfl
theorem pd_ocopy {t0 t1 a0 n0 n1 sp dp n : Nat} {E : String} {f g : Nat → Option Nat} (X : pd_B p s m args meth c G own cc nL ret) (hsz : ls.size = nL) (w : pd_w G s H locs h) (h0 : h a0 = some (t0, .inl (.object E, n0, .inr (.inr (.inr (.inr f)))))) (h1 : h a = some (t1, .inl (.object "java/lang/Object", n1, .inr (.inr (.inr (.inr g)))))) (hz : G.2.1 ≤ a) (hl : Cond.methodLink own index arraycopyName ∈ pd_T) (hnat : Cond.native arraycopyName ∈ pd_T) (hstat : Cond.static arraycopyName ∈ pd_T) (hini : Cond.initialized "java/lang/System" ∈ pd_T)
    (hs : sp + n ≤ n0) (hd : dp + n ≤ n1) (hb0 : n0 < 2 ^ 30) (hb1 : n1 < 2 ^ 30) (hel : ∀ i, i < n → ∀ y, f (sp + i) = some y → ∃ (t cv : Nat) (vs : List Value) (r : vw_C), h y = some (t, .inr (cv, vs)) ∧ vwCl[cv]? = some r ∧ Cond.castable r.1 "java/lang/Object" ∈ pd_N) (hframes : 1 ≤ R.frames) (hlocals : (rest.map fun v => v.category).sum + (nativeFrameWords "java/lang/System" "arraycopy" 5 + 11) ≤ R.locals) (hdg : decode cc pc = .ok (.invokestatic index, 3))
    (kk : ∀ (H1 : Heap) (locs1 : List Loc), pd_w G s H1 locs1 (pd_up h a (t1, .inl (.object "java/lang/Object", n1, .inr (.inr (.inr (.inr (va_cpy f g sp dp n))))))) → W p l e R s m args below meth c H1 locs1 cells slots Q (F0 m (pc + 3) ls rest)) :
    W p l e R s m args below meth c H locs cells slots Q (F0 m pc ls (.int (nI n) :: .int (nI dp) :: .ref a :: .int (nI sp) :: .ref a0 :: rest)) := by
  obtain ⟨cA, k1, k2, k3⟩ := (w.1.2 a _ h1).2 hz
  have hc1 : H[a]? = some (vp_cell cA (n1, .inr (.inr (.inr (.inr g))))) := k3
  obtain ⟨scr, hs1, hs2, hs3, hs4, -, hs5, -⟩ := (w.1.2 a0 _ h0).1
  have hs4 : n0 ≤ scr.slots.size := hs4
  have hs5 : ∀ j : Nat, j < n0 → scr.slots[j]? = some (va_rf (f j)) := hs5
  have hns : sp < 2 ^ 31 := by omega
  have hnd : dp < 2 ^ 31 := by omega
  have hnn : n < 2 ^ 31 := by omega
  intro T hT XX
  obtain ⟨hs6, q0, hk0, cm0, hkk0⟩ := hs2
  obtain ⟨-, q1, hk1, cm1, hkk1⟩ := k1 n1 (fun j => va_rf (g j))
  obtain ⟨kA, comp, j1, j2, j3, j4⟩ := k2
  obtain ⟨vm', X', step⟩ := XX.arraycopy X.1 X.2.2.2.2.1 (X.2.2.2.2.2.1 _ hl) (X.2.2.2.2.2.1 _ hnat) (X.2.2.2.2.2.1 _ hstat) (X.2.2.2.2.2.1 _ hini) (src := a0) (dst := a) (cs := scr) (cd := vp_cell cA (n1, .inr (.inr (.inr (.inr g))))) (srcPos := nI sp) (destPos := nI dp) (n := nI n) (by rw [hT]; exact hs1) (by rw [hT]; exact hc1)
    hs6 (fun _ h => by cases h) hs3 (fun h => by cases h) hk0 hk1 hkk0 hkk1 rfl (nI_pos hns) (nI_pos hnd) (nI_pos hnn)
    (by rw [nI_toInt hns, nI_toInt hnn]; omega)
    (by rw [nI_toInt hnd, nI_toInt hnn]; show ¬ _ > ((arrV cA n1 (fun j => va_rf (g j))).slots.size : Int); rw [arrV_size]; omega)
    (fun vm₁ hal i hi => by
      rw [nI_clamp hnn] at hi
      have e : scr.slots.getD ((nI sp).toNatClampNeg + i) .null = va_rf (f (sp + i)) := by
        rw [nI_clamp hns, Array.getD_eq_getD_getElem?, hs5 _ (by omega)]
        rfl
      rw [e]
      cases hy : f (sp + i) with
      | none => exact ⟨rfl, trivial⟩
      | some y =>
        obtain ⟨t, cv, vs, r, g1, g2, g3⟩ := hel i hi y hy
        obtain ⟨r', cellV, e0, e1, e2, e3, e4, -⟩ := (w.1.2 y _ g1).1
        have hcls := (X.2.2.2.2.2.2.2.1.1 cv r g2).2
        cases hk1.symm.trans j1
        cases hkk1.symm.trans j2
        obtain ⟨kC, hkC, -⟩ := hcls.2
        obtain ⟨kE, hkE, -⟩ := Vm.findClass_spec j3
        obtain ⟨kC', hkC', -⟩ := hal.2.2 _ _ hkC
        obtain ⟨kE', hkE', -⟩ := hal.2.2 _ _ hkE
        obtain ⟨c0, t1, f1, f2, f3⟩ := Cond.castable_spec (X.nw g3)
        cases hcls.1.symm.trans f1
        cases j3.symm.trans f2
        refine ⟨rfl, cellV, (show T.heap[y]? = some cellV by rw [hT]; exact e1), (fun q h => by rw [h] at e3; cases e3), ⟨kC', by rw [e2]; exact hkC'⟩, ⟨kE', hkE'⟩, ?_⟩
        show vm₁.assignable _ _ = true
        rw [hal.assignable, e2]
        exact f3)
    (g := F0 m pc ls (.int (nI n) :: .int (nI dp) :: .ref a :: .int (nI sp) :: .ref a0 :: rest)) rfl (by rw [X.2.2.2.1]; exact hsz) (rest := rest) rfl (by rw [X.2.1]; exact hdg) hframes (by show 2 * 0 + _ + _ ≤ _; omega)
  have e1 : copied scr (vp_cell cA (n1, .inr (.inr (.inr (.inr g))))) (nI sp) (nI dp) (nI n) = vp_cell cA (n1, .inr (.inr (.inr (.inr (va_cpy f g sp dp n))))) := by
    have e2 := va_copiedX (fun z => va_rf z) scr cA (n1 := n1) (dp := (nI dp).toNatClampNeg) (sp := (nI sp).toNatClampNeg) (n := (nI n).toNatClampNeg) f g hs5 (by rw [nI_clamp hns, nI_clamp hnn]; exact hs)
    rw [nI_clamp hns, nI_clamp hnd, nI_clamp hnn] at e2
    rw [vp_cell_q, vp_cell_q]
    unfold copied
    rw [nI_clamp hns, nI_clamp hnd, nI_clamp hnn]
    exact e2
  rw [e1] at X' step
  have hlt : a < H.size := (Array.getElem?_eq_some_iff.mp hc1).1
  have hheap : ((T.setVm vm').setCell a (vp_cell cA (n1, .inr (.inr (.inr (.inr (va_cpy f g sp dp n))))))).heap = H.setIfInBounds a (vp_cell cA (n1, .inr (.inr (.inr (.inr (va_cpy f g sp dp n)))))) := by rw [← hT]; rfl
  have oq : ∀ q : Nat, q ≠ a → (H.setIfInBounds a (vp_cell cA (n1, .inr (.inr (.inr (.inr (va_cpy f g sp dp n)))))))[q]? = H[q]? := fun q hq => by simp [Array.getElem?_setIfInBounds, Ne.symm hq]
  obtain ⟨t, a1, b1⟩ := kk _ _ ⟨w.1.put (c := (t1, .inl (.object "java/lang/Object", n1, .inr (.inr (.inr (.inr (va_cpy f g sp dp n))))))) ⟨cA, k1, ⟨kA, comp, j1, j2, j3, j4⟩, (show (H.setIfInBounds a _)[a]? = some _ by simp [Array.getElem?_setIfInBounds, hlt])⟩ (by simp) oq, w.2.1.put X.2.2.2.2.2.2.2.2.2.1 hz, by simp; exact w.2.2.1, fun q g1 g2 => by
      rw [oq q (fun e => g2 (by rw [e]; exact hz))]
      exact w.2.2.2.1 q g1 g2, fun q hq => by
      rcases List.mem_append.mp hq with h | h
      · exact w.2.2.2.2 q h
      · obtain ⟨z, -, hz2⟩ := List.mem_map.mp h
        rw [← hz2]
        exact hz⟩ _ hheap X'
  exact ⟨t, step t a1, b1⟩
theorem pd_emp (X : pd_B p s m args meth c G own cc nL ret) (w : pd_w G s H locs h) : h (G.2.2.2 0) = some (0, .inl (.object "java/lang/Object", 0, .inr (.inr (.inr (.inr (fun _ => none)))))) := w.2.1 _ _ (pd_Kf_of X).2.1
end PDAL
