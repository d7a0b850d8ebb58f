/-! further rows: statics, String constants, answers that are small numbers -/
section PDX
variable {p : Program} {l : Launch} {e : Env} {R : Room} {s : State} {m : MethodId} {args : Array Value} {below : List Frame} {meth : Method} {c : Code} {H : Heap} {locs : List Loc} {cells slots : Nat} {Q : State → Prop}
variable {cc : ByteArray} {pc nL index : Nat} {ls : Array Slot} {rest : List Value} {G : pd_G} {own : String} {ret : Option FieldType} {h : pd_H} {mc ms : Nat}
theorem pd_gets {C n d : String} {v : Value} (X : pd_B p s m args meth c G own cc nL ret) (w : pd_w G s H locs h) (hz : (C, n, d, v) ∈ pd_Zs G.2.2.2) (hl : Cond.fieldLink own index C n d ∈ pd_T) (hdg : decode cc pc = .ok (.getstatic index, 3))
    (kk : W p l e R s m args below meth c H locs cells slots Q (F0 m (pc + 3) ls (v :: rest))) : W p l e R s m args below meth c H locs cells slots Q (F0 m pc ls rest) :=
  va_gets X.1 X.2.1 (X.2.2.2.2.2.2.2.2.2.2.1 _ hz) w.2.2 X.2.2.2.2.1 (X.2.2.2.2.2.1 _ hl) (fun _ h => h) hdg kk
theorem pd_ldc {tx : String} {j : Nat} (X : pd_B p s m args meth c G own cc nL ret) (hz : (own, index, tx, j) ∈ pd_Ls) (hdg : decode cc pc = .ok (.ldc index, 2))
    (kk : W p l e R s m args below meth c H locs cells slots Q (F0 m (pc + 2) ls (.ref (G.2.2.2 j) :: rest))) : W p l e R s m args below meth c H locs cells slots Q (F0 m pc ls rest) :=
  va_ldcS X.1 X.2.1 X.2.2.2.2.1 (X.2.2.2.2.2.2.2.2.2.2.2.1 _ hz) hdg kk
theorem pd_Str.kx {ts : List Nat} {h h' : pd_H} {a : Nat} {cs : List Nat} (q : pd_Str h a cs) (k : pd_kx ts h h') (n : 0 ∉ ts) : pd_Str h' a cs := by
  obtain ⟨v, f, h1, h2, h3⟩ := q
  exact ⟨v, f, k _ _ h1 n, k _ _ h2 n, h3⟩
theorem pd_litS (X : pd_B p s m args meth c G own cc nL ret) (w : pd_w G s H locs h) (j : Nat) (hj : j < 39) : pd_Str h (G.2.2.2 (40 + j)) (pd_lit j) := by
  obtain ⟨v, f, h1, h2, h3⟩ := X.2.2.2.2.2.2.2.2.2.2.2.2.2.2.1.1 j hj
  exact ⟨v, f, w.2.1 _ _ h1, w.2.1 _ _ h2, h3⟩
theorem pd_Kf_of (X : pd_B p s m args meth c G own cc nL ret) : pd_Kf G := X.2.2.2.2.2.2.2.2.2.2.2.2.2.2.1
abbrev pd_vn (n : Nat) : Value := .int (nI n)
def pd_m (o : Option Nat) : Int32 := match o with | none => -1 | some n => nI n
abbrev pd_vm (o : Option Nat) : Value := .int (pd_m o)
theorem pd_nret {post : Nat → pd_H → Prop} {v : Nat} (X : pd_B p s m args meth c G own cc nL (some .int)) (w : pd_w G s H locs h) (hp : post v h) (hc : cells ≤ mc) (hs : slots ≤ ms) (hdg : decode cc pc = .ok (.ireturn, 1)) :
    W p l e R s m args below meth c H locs cells slots (MQ below (pd_Q G pd_vn post) args s mc ms (fun q => G.2.1 ≤ q)) (F0 m pc ls [.int (nI v)]) := by
  obtain ⟨hx, hb, hr, hml, hown, hts, hlocks, hE⟩ := X
  refine W.widen hc hs ?_
  exact W.iret hx hb hr (fun t ht hW => ⟨⟨v, h, rfl, hp, by rw [ht]; exact w.1.moved hW.alike, w.2.1⟩, w.2.2.F ht⟩) w.2.2.2.2 hdg hlocks
/-- a char or byte answer -/
theorem pd_ncret {post : Nat → pd_H → Prop} {v : Nat} {ty : FieldType} (X : pd_B p s m args meth c G own cc nL (some ty)) (hn : narrow ty (.int (nI v)) = .int (nI v)) (w : pd_w G s H locs h) (hp : post v h) (hc : cells ≤ mc) (hs : slots ≤ ms) (hdg : decode cc pc = .ok (.ireturn, 1)) :
    W p l e R s m args below meth c H locs cells slots (MQ below (pd_Q G pd_vn post) args s mc ms (fun q => G.2.1 ≤ q)) (F0 m pc ls [.int (nI v)]) := by
  obtain ⟨hx, hb, hr, hml, hown, hts, hlocks, hE⟩ := X
  refine W.widen hc hs ?_
  exact W.zret hx hb hr hn (fun t ht hW => ⟨⟨v, h, rfl, hp, by rw [ht]; exact w.1.moved hW.alike, w.2.1⟩, w.2.2.F ht⟩) w.2.2.2.2 hdg hlocks
theorem pd_mret {post : Option Nat → pd_H → Prop} {v : Option Nat} (X : pd_B p s m args meth c G own cc nL (some .int)) (w : pd_w G s H locs h) (hp : post v h) (hc : cells ≤ mc) (hs : slots ≤ ms) (hdg : decode cc pc = .ok (.ireturn, 1)) :
    W p l e R s m args below meth c H locs cells slots (MQ below (pd_Q G pd_vm post) args s mc ms (fun q => G.2.1 ≤ q)) (F0 m pc ls [.int (pd_m v)]) := by
  obtain ⟨hx, hb, hr, hml, hown, hts, hlocks, hE⟩ := X
  refine W.widen hc hs ?_
  exact W.iret hx hb hr (fun t ht hW => ⟨⟨v, h, rfl, hp, by rw [ht]; exact w.1.moved hW.alike, w.2.1⟩, w.2.2.F ht⟩) w.2.2.2.2 hdg hlocks
theorem pd_cat (o : Option Nat) : (va_rf o).category = 1 := by cases o <;> rfl
variable {off : Int} {tgt : Nat}
theorem pd_mlt {o : Option Nat} (hx : p.tables.exec = Jvm.exec) (hb' : c.code = cc) (hdg : decode cc pc = .ok (.ifCond .lt off, 3)) (ht : (pc : Int) + off = (tgt : Int)) (ho : ∀ x, o = some x → x < 2 ^ 31) (kt : o = none → W p l e R s m args below meth c H locs cells slots Q (F0 m tgt ls rest)) (kf : ∀ x : Nat, o = some x → W p l e R s m args below meth c H locs cells slots Q (F0 m (pc + 3) ls rest)) : W p l e R s m args below meth c H locs cells slots Q (F0 m pc ls (.int (pd_m o) :: rest)) := by
  cases o with
  | none => exact lv_if_lt hx hb' hdg ht (fun _ => kt rfl) (fun q => absurd (by decide) q)
  | some x => exact lv_if_lt hx hb' hdg ht (fun q => absurd q (nI_pos (ho x rfl))) (fun _ => kf x rfl)
theorem pd_mge {o : Option Nat} (hx : p.tables.exec = Jvm.exec) (hb' : c.code = cc) (hdg : decode cc pc = .ok (.ifCond .ge off, 3)) (ht : (pc : Int) + off = (tgt : Int)) (ho : ∀ x, o = some x → x < 2 ^ 31) (kf : o = none → W p l e R s m args below meth c H locs cells slots Q (F0 m (pc + 3) ls rest)) (kt : ∀ x : Nat, o = some x → W p l e R s m args below meth c H locs cells slots Q (F0 m tgt ls rest)) : W p l e R s m args below meth c H locs cells slots Q (F0 m pc ls (.int (pd_m o) :: rest)) := by
  cases o with
  | none => exact lv_if_ge hx hb' hdg ht (fun q => absurd q (by decide)) (fun _ => kf rfl)
  | some x => exact lv_if_ge hx hb' hdg ht (fun _ => kt x rfl) (fun q => absurd (nI_pos' (ho x rfl)) q)
end PDX
