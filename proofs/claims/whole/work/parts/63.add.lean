/-! the reference takes a member -/
section PDZA
variable {p : Program} {l : Launch} {e : Env} {R : Room} {s : State} {m : MethodId} {args : Array Value} {below : List Frame} {meth : Method} {c : Code} {H : Heap} {locs : List Loc} {cells slots : Nat} {Q : State → Prop}
variable {cc : ByteArray} {pc nL : Nat} {ls : Array Slot} {rest : List Value} {G : pd_G} {own : String} {ret : Option FieldType} {h : pd_H} {a tg n i : Nat} {f : Nat → Int32}
theorem pd_zast {x z : Int32} (X : pd_B p s m args meth c G own cc nL ret) (w : pd_w G s H locs h) (ho : h a = some (tg, .inl (.boolean, n, .inl f))) (hz : G.2.1 ≤ a) (hi : i < n) (hn : n < 2 ^ 31) (hxz : narrow .boolean (.int x) = .int z) (hdg : decode cc pc = .ok (.bastore, 1))
    (kk : ∀ (H1 : Heap) (locs1 : List Loc), pd_w G s H1 locs1 (pd_up h a (tg, .inl (.boolean, n, .inl (upd f i z)))) → W p l e R s m args below meth c H1 locs1 cells slots Q (F0 m (pc + 1) ls rest)) : W p l e R s m args below meth c H locs cells slots Q (F0 m pc ls (.int x :: .int (nI i) :: .ref a :: rest)) := by
  obtain ⟨cA, k1, k2, k3⟩ := (w.1.2 a _ ho).2 hz
  have k3 : H[a]? = some (vp_cell cA (n, .inl f)) := k3
  obtain ⟨c1, c2⟩ := pd_clamp hi hn
  refine W.zast X.1 X.2.1 k3 (k1 n (fun j => .int (f j))) (fun q => by cases q) (by show ¬ (nI i < 0 ∨ (arrV _ _ _).slots.size ≤ _); rw [arrV_size]; exact c2) rfl rfl hdg fun H1 e zz oq => ?_
  rw [c1, hxz, pd_ast (x := (n, .inl f)) (x' := (n, .inl (upd f i z))) rfl (pd_el_i f n i _)] at e
  rw [c1]
  exact kk H1 _ ⟨w.1.put (c := (tg, .inl (.boolean, n, .inl (upd f i z)))) ⟨cA, k1, k2, e⟩ zz oq, w.2.1.put X.2.2.2.2.2.2.2.2.2.1 hz, w.2.2.put zz oq hz⟩
end PDZA
theorem gm_M_add {fv fv2 : Nat → Nat → Int32} {iv iv2 : Nat → Int32} {n k : Nat} {M : Nat → pd_mr} {row : pd_mr} (hM : gm_M fv iv n k M) (hk : k < 24) (hi : iv2 20 = nI (k + 1)) (e13 : fv2 13 = upd (fv 13) k (nI row.1)) (hn : row.1 < n) (e14 : fv2 14 = upd (fv 14) k (nI row.2.2.2)) (hm : row.2.2.2 < 4) (e16 : fv2 16 = upd (fv 16) k (nI row.2.1.length)) (hl : row.2.1.length ≤ 12) (hc : ∀ x ∈ row.2.1, x < 256) (h15 : ∀ i, i < row.2.1.length → fv2 15 (12 * k + i) = nI (row.2.1.getD i 0)) (k15 : ∀ x, x < 12 * k → fv2 15 x = fv 15 x) (e18 : fv2 18 = upd (fv 18) k (nI row.2.2.1.length)) (hl2 : row.2.2.1.length ≤ 60) (hc2 : ∀ x ∈ row.2.2.1, x < 256) (h17 : ∀ i, i < row.2.2.1.length → fv2 17 (60 * k + i) = nI (row.2.2.1.getD i 0)) (k17 : ∀ x, x < 60 * k → fv2 17 x = fv 17 x) (e19 : fv2 19 = upd (fv 19) k (pd_b (gr_ism row.2.2.1))) : gm_M fv2 iv2 n (k + 1) (pd_fu M k row) := by
  obtain ⟨_, hk24, hMm⟩ := hM
  refine ⟨hi, by omega, fun j hj => ?_⟩
  rw [e13, e14, e16, e18, e19]
  by_cases e : j = k
  · subst e
    rw [pd_fu_s, pk_us, pk_us, pk_us, pk_us, pk_us]
    exact ⟨rfl, hn, rfl, hm, rfl, hl, h15, hc, rfl, hl2, h17, hc2, rfl⟩
  · obtain ⟨r1, r2, r3, r4, r5, r6, r7, r8, r9, r10, r11, r12, r13⟩ := hMm j (by omega)
    rw [pd_fu_n e, pk_un e, pk_un e, pk_un e, pk_un e, pk_un e]
    refine ⟨r1, r2, r3, r4, r5, r6, fun i hi => ?_, r8, r9, r10, fun i hi => ?_, r12, r13⟩
    · rw [k15 _ (by omega)]
      exact r7 i hi
    · rw [k17 _ (by omega)]
      exact r11 i hi
