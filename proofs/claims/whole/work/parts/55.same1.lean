/-! the reference finds what the class finds -/
theorem fs_H {g : Nat → Option Nat} : ∀ (L od : List Nat), (L.foldl al_add od).findSome? g = (od.findSome? g).or (L.findSome? g)
  | [], od => by simp
  | y :: L, od => by
    rw [List.foldl_cons, fs_H L]
    by_cases h : y ∈ od
    · rw [al_in h, List.findSome?_cons]
      cases e : od.findSome? g with
      | some b => rfl
      | none =>
        have : g y = none := (List.findSome?_eq_none_iff.mp e) y h
        rw [this]
    · rw [al_out h, List.findSome?_append, List.findSome?_cons, List.findSome?_cons]
      cases e : od.findSome? g with
      | some b => rfl
      | none =>
        cases e2 : g y with
        | some b => rfl
        | none => rfl
theorem fs_ff {R : Nat → pd_cr} {M : Nat → pd_mr} {k : Nat} {cs ds : List Nat} : ∀ (f : Nat) (o : Option Nat) (od : List Nat), ((gm_ch R f o).foldl (gm_G R) od).findSome? (fun j => gr_decl M k j cs ds) = (od.findSome? (fun j => gr_decl M k j cs ds)).or (gr_ff R M k cs ds f o)
  | 0, o, od => by cases o <;> simp [gm_ch, gr_ff]
  | f + 1, none, od => by simp [gm_ch, gr_ff]
  | f + 1, some x, od => by
    show ((gm_ch R f (R x).2.2.1).foldl (gm_G R) (gm_G R od x)).findSome? _ = _
    rw [fs_ff f]
    unfold gm_G
    rw [fs_H, show al_add od x = [x].foldl al_add od from rfl, fs_H, List.findSome?_cons, List.findSome?_nil]
    rw [gr_ff]
    show ((_ : Option Nat).or (gr_dif M k (R x).2.2.2.2.2.2 cs ds)).or _ = _
    cases od.findSome? (fun j => gr_decl M k j cs ds) with
    | some b => rfl
    | none =>
      cases gr_decl M k x cs ds with
      | some b => rfl
      | none =>
        cases gr_dif M k (R x).2.2.2.2.2.2 cs ds with
        | some b => rfl
        | none => rfl
theorem fs_f1 {R : Nat → pd_cr} {M : Nat → pd_mr} {k : Nat} {cs ds : List Nat} : ∀ (f : Nat) (o : Option Nat) (od : List Nat), ((gm_ch R f o).foldl al_add od).findSome? (fun j => gr_decl M k j cs ds) = (od.findSome? (fun j => gr_decl M k j cs ds)).or (gr_f1 R M k cs ds f o)
  | 0, o, od => by cases o <;> simp [gm_ch, gr_f1]
  | f + 1, none, od => by simp [gm_ch, gr_f1]
  | f + 1, some x, od => by
    show ((gm_ch R f (R x).2.2.1).foldl al_add (al_add od x)).findSome? _ = _
    rw [fs_f1 f, show al_add od x = [x].foldl al_add od from rfl, fs_H, List.findSome?_cons, List.findSome?_nil, gr_f1]
    cases od.findSome? (fun j => gr_decl M k j cs ds) with
    | some b => rfl
    | none =>
      cases gr_decl M k x cs ds with
      | some b => rfl
      | none => rfl
theorem fs_f2 {R : Nat → pd_cr} {M : Nat → pd_mr} {k : Nat} {cs ds : List Nat} : ∀ (f : Nat) (o : Option Nat) (od : List Nat), ((gm_ch R f o).foldl (gm_F R) od).findSome? (fun j => gr_decl M k j cs ds) = (od.findSome? (fun j => gr_decl M k j cs ds)).or (gr_f2 R M k cs ds f o)
  | 0, o, od => by cases o <;> simp [gm_ch, gr_f2]
  | f + 1, none, od => by simp [gm_ch, gr_f2]
  | f + 1, some x, od => by
    show ((gm_ch R f (R x).2.2.1).foldl (gm_F R) (gm_F R od x)).findSome? _ = _
    rw [fs_f2 f]
    unfold gm_F
    rw [fs_H, gr_f2]
    show ((_ : Option Nat).or (gr_dif M k (R x).2.2.2.2.2.2 cs ds)).or _ = _
    cases od.findSome? (fun j => gr_decl M k j cs ds) with
    | some b => rfl
    | none =>
      cases gr_dif M k (R x).2.2.2.2.2.2 cs ds with
      | some b => rfl
      | none => rfl
theorem gm_fld_ff {R : Nat → pd_cr} {M : Nat → pd_mr} {k x : Nat} {cs ds : List Nat} : (gm_fld R x).findSome? (fun j => gr_decl M k j cs ds) = gr_ff R M k cs ds 14 (some x) := by
  unfold gm_fld
  rw [fs_ff]
  rfl
theorem gm_all_meth {R : Nat → pd_cr} {M : Nat → pd_mr} {k x : Nat} {cs ds : List Nat} : (gm_all R x).findSome? (fun j => gr_decl M k j cs ds) = gr_meth R M k cs ds x := by
  unfold gm_all gr_meth
  rw [fs_f2, fs_f1]
  rfl
