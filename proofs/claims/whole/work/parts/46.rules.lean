/-! the reference's rules -/
def gm_rn (r : pd_rr) : Nat := match r.2.2.2 with
  | none => r.2.2.1
  | some b => b
def gm_U (fv : Nat → Nat → Int32) (iv : Nat → Int32) (u : Nat) (U : Nat → pd_rr) : Prop := iv 29 = nI u ∧ u ≤ 24 ∧ ∀ j, j < u → fv 21 j = nI ((U j).1 - 4) ∧ (4 ≤ (U j).1 ∧ (U j).1 ≤ 7) ∧ fv 22 j = nI (3 - gr_rch (U j).2.1) ∧ fv 24 j = nI (gr_pn (U j).2.1).length ∧ (gr_pn (U j).2.1).length ≤ 24 ∧ (∀ i, i < (gr_pn (U j).2.1).length → fv 23 (24 * j + i) = nI ((gr_pn (U j).2.1).getD i 0)) ∧ (∀ x ∈ gr_pn (U j).2.1, x < 256) ∧ fv 25 j = nI (gr_bh (U j).2.1) ∧ (gr_bh (U j).2.1 = 2 → fv 27 j = nI (gr_ad (U j).2.1).length ∧ (gr_ad (U j).2.1).length ≤ 60 ∧ (∀ i, i < (gr_ad (U j).2.1).length → fv 26 (60 * j + i) = nI ((gr_ad (U j).2.1).getD i 0)) ∧ ∀ x ∈ gr_ad (U j).2.1, x < 256) ∧ fv 28 j = nI (gm_rn (U j)) ∧ gm_rn (U j) < 1000
theorem gr_nm_last : ∀ (s : List Nat) (b : Bool), gr_nm s b = true → ∀ i, i + 1 = s.length → ¬ s.getD i 0 = 47
  | [], _, _, i, h => by simp at h
  | [x], b, h, i, hi => by
    have e : i = 0 := by simpa using hi
    subst e
    intro z
    have z : x = 47 := z
    subst z
    simp [gr_nm] at h
  | x :: y :: t, b, h, i, hi => by
    obtain ⟨i, rfl⟩ : ∃ z, i = z + 1 := ⟨i - 1, by simp at hi; omega⟩
    have h2 : ∃ b2, gr_nm (y :: t) b2 = true := by
      rw [gr_nm] at h
      split at h
      · split at h
        · exact ⟨false, h⟩
        · cases h
      · split at h
        · exact ⟨true, h⟩
        · cases h
    obtain ⟨b2, h2⟩ := h2
    have := gr_nm_last (y :: t) b2 h2 i (by simp at hi ⊢; omega)
    simpa using this
theorem gr_name_last {s : List Nat} (h : gr_name s = true) {i : Nat} (hi : i + 1 = s.length) : ¬ s.getD i 0 = 47 := by
  unfold gr_name at h
  exact gr_nm_last s false (Bool.and_eq_true_iff.mp h).1 i hi
theorem gr_sll_no : ∀ {cs : List Nat} {i : Nat} {o : Option Nat}, (∀ j, j < cs.length → ¬ cs.getD j 0 = 47) → gr_sll cs i o = o
  | [], _, _, _ => rfl
  | x :: t, i, o, h => by
    have h0 : ¬ x = 47 := h 0 (by simp)
    rw [gr_sll, if_neg h0]
    exact gr_sll_no (fun j hj => by have := h (j + 1) (by simpa using hj); simpa using this)
theorem gr_sll_at : ∀ {cs : List Nat} {i L : Nat} {o : Option Nat}, L < cs.length → cs.getD L 0 = 47 → (∀ j, L < j → j < cs.length → ¬ cs.getD j 0 = 47) → gr_sll cs i o = some (i + L)
  | [], _, L, _, h, _, _ => absurd h (Nat.not_lt_zero L)
  | x :: t, i, 0, o, _, h1, h2 => by
    have h1 : x = 47 := h1
    rw [gr_sll, if_pos h1]
    exact gr_sll_no (fun j hj => by have := h2 (j + 1) (by omega) (by simpa using hj); simpa using this)
  | x :: t, i, L + 1, o, h, h1, h2 => by
    rw [gr_sll, gr_sll_at (L := L) (by simpa using h) (by simpa using h1) (fun j hj hl => by have := h2 (j + 1) (by omega) (by simpa using hl); simpa using this)]
    congr 1
    omega
theorem gr_sll_inv : ∀ {cs : List Nat} {i t : Nat} {o : Option Nat}, gr_sll cs i o = some t → (o = some t ∧ ∀ j, j < cs.length → ¬ cs.getD j 0 = 47) ∨ (i ≤ t ∧ t - i < cs.length ∧ cs.getD (t - i) 0 = 47 ∧ ∀ j, t - i < j → j < cs.length → ¬ cs.getD j 0 = 47)
  | [], _, _, _, h => Or.inl ⟨h, fun j hj => absurd hj (Nat.not_lt_zero j)⟩
  | x :: cs, i, t, o, h => by
    rw [gr_sll] at h
    rcases gr_sll_inv h with ⟨z1, z2⟩ | ⟨z1, z2, z3, z4⟩
    · by_cases hx : x = 47
      · rw [if_pos hx] at z1
        cases z1
        right
        refine ⟨Nat.le_refl _, by simp, ?_, ?_⟩
        · rw [Nat.sub_self]
          exact hx
        · intro j hj hl
          obtain ⟨j, rfl⟩ : ∃ z, j = z + 1 := ⟨j - 1, by omega⟩
          have := z2 j (by simpa using hl)
          simpa using this
      · rw [if_neg hx] at z1
        left
        refine ⟨z1, fun j hj => ?_⟩
        cases j with
        | zero => exact hx
        | succ j => have := z2 j (by simpa using hj); simpa using this
    · right
      have e : t - i = (t - (i + 1)) + 1 := by omega
      refine ⟨by omega, by simp; omega, ?_, ?_⟩
      · rw [e]
        simpa using z3
      · intro j hj hl
        obtain ⟨j, rfl⟩ : ∃ z, j = z + 1 := ⟨j - 1, by omega⟩
        have := z4 j (by omega) (by simpa using hl)
        simpa using this
theorem gr_sl_inv {cs : List Nat} {t : Nat} (h : gr_sl cs = some t) : t < cs.length ∧ cs.getD t 0 = 47 ∧ ∀ j, t < j → j < cs.length → ¬ cs.getD j 0 = 47 := by
  rcases gr_sll_inv h with ⟨z1, _⟩ | ⟨z1, z2, z3, z4⟩
  · cases z1
  · exact ⟨z2, z3, z4⟩
theorem gr_sl_at {cs : List Nat} {L : Nat} (h : L < cs.length) (h1 : cs.getD L 0 = 47) (h2 : ∀ j, L < j → j < cs.length → ¬ cs.getD j 0 = 47) : gr_sl cs = some L := by
  have := gr_sll_at (i := 0) (o := none) h h1 h2
  rwa [Nat.zero_add] at this
theorem gm_fcl_short {cs w : List Nat} (hr : gr_rch w = 1 ∨ gr_rch w = 2) (hn : gr_name cs = true) (h : cs.length < (gr_pn w).length + 2) : gr_fcl cs w = false := by
  unfold gr_fcl
  rcases hr with hr | hr
  · rw [if_neg (by omega), if_pos hr, show gr_at cs (gr_pn w).length 47 = false from decide_eq_false (fun z => gr_name_last hn (i := (gr_pn w).length) (by omega) z.2)]
    rfl
  · rw [if_neg (by omega), if_neg (by omega), if_pos hr, decide_eq_false (fun z => by have y := gr_sl_inv z; exact gr_name_last hn (i := (gr_pn w).length) (by omega) y.2.1)]
    rfl
theorem gm_fcl_mis {cs w : List Nat} {i : Nat} (hr : ¬ gr_rch w = 0) (hi : i < (gr_pn w).length) (h : ¬ (gr_pn w).getD i 0 = cs.getD i 0) : gr_fcl cs w = false := by
  unfold gr_fcl
  rw [if_neg hr]
  have h2 : gr_sw cs (gr_pn w) = false := gr_sw_f2 hi (fun z => h z.symm)
  rw [h2, Bool.and_false, Bool.and_false]
  split
  · rfl
  · split
    · rfl
    · exact decide_eq_false (fun z => h (by rw [z]))
theorem gm_fcl_ns {cs w : List Nat} (hr : gr_rch w = 1 ∨ gr_rch w = 2) (h : ¬ cs.getD (gr_pn w).length 0 = 47) : gr_fcl cs w = false := by
  unfold gr_fcl
  rcases hr with hr | hr
  · rw [if_neg (by omega), if_pos hr, show gr_at cs (gr_pn w).length 47 = false from decide_eq_false (fun z => h z.2)]
    rfl
  · rw [if_neg (by omega), if_neg (by omega), if_pos hr, decide_eq_false (fun z => h (gr_sl_inv z).2.1)]
    rfl
theorem gm_fcl_sl {cs w : List Nat} {i : Nat} (hr : gr_rch w = 2) (h1 : (gr_pn w).length < i) (h2 : i < cs.length) (h : cs.getD i 0 = 47) : gr_fcl cs w = false := by
  unfold gr_fcl
  rw [if_neg (by omega), if_neg (by omega), if_pos hr, decide_eq_false (fun z => (gr_sl_inv z).2.2 i h1 h2 h)]
  rfl
theorem gm_fcl_ex {cs w : List Nat} (hr : gr_rch w = 3) (hl : cs.length = (gr_pn w).length) (h : ∀ j, j < (gr_pn w).length → (gr_pn w).getD j 0 = cs.getD j 0) : gr_fcl cs w = true := by
  unfold gr_fcl
  rw [if_neg (by omega), if_neg (by omega), if_neg (by omega)]
  exact decide_eq_true (tx_ext hl (fun j hj => (h j (by omega)).symm))
theorem gm_fcl_en {cs w : List Nat} (hr : gr_rch w = 3) (hl : ¬ cs.length = (gr_pn w).length) : gr_fcl cs w = false := by
  unfold gr_fcl
  rw [if_neg (by omega), if_neg (by omega), if_neg (by omega)]
  exact decide_eq_false (fun z => hl (by rw [← z]))
theorem gm_fcl_y {cs w : List Nat} (hr : gr_rch w = 1 ∨ (gr_rch w = 2 ∧ ∀ j, (gr_pn w).length < j → j < cs.length → ¬ cs.getD j 0 = 47)) (hl : (gr_pn w).length + 2 ≤ cs.length) (h4 : cs.getD (gr_pn w).length 0 = 47) (h : ∀ j, j < (gr_pn w).length → (gr_pn w).getD j 0 = cs.getD j 0) : gr_fcl cs w = true := by
  have hs : gr_sw cs (gr_pn w) = true := gr_sw_t (by omega) (fun j hj => (h j hj).symm)
  unfold gr_fcl
  rcases hr with hr | ⟨hr, hn⟩
  · rw [if_neg (by omega), if_pos hr, hs, show gr_at cs (gr_pn w).length 47 = true from decide_eq_true ⟨by omega, h4⟩]
    rfl
  · rw [if_neg (by omega), if_neg (by omega), if_pos hr, hs, decide_eq_true (gr_sl_at (by omega) h4 hn)]
    rfl
theorem d_p15m34_0 : decode prog_15_method_34_code 0 = .ok (.aload_n 0, 1) := by decide +kernel
theorem d_p15m34_1 : decode prog_15_method_34_code 1 = .ok (.getfield 66, 3) := by decide +kernel
theorem d_p15m34_4 : decode prog_15_method_34_code 4 = .ok (.iload_n 1, 1) := by decide +kernel
theorem d_p15m34_5 : decode prog_15_method_34_code 5 = .ok (.iaload, 1) := by decide +kernel
theorem d_p15m34_6 : decode prog_15_method_34_code 6 = .ok (.iconst 3, 1) := by decide +kernel
theorem d_p15m34_7 : decode prog_15_method_34_code 7 = .ok (.if_icmp .ne 5, 3) := by decide +kernel
theorem d_p15m34_10 : decode prog_15_method_34_code 10 = .ok (.iconst 1, 1) := by decide +kernel
theorem d_p15m34_11 : decode prog_15_method_34_code 11 = .ok (.ireturn, 1) := by decide +kernel
theorem d_p15m34_12 : decode prog_15_method_34_code 12 = .ok (.aload_n 0, 1) := by decide +kernel
theorem d_p15m34_13 : decode prog_15_method_34_code 13 = .ok (.getfield 72, 3) := by decide +kernel
theorem d_p15m34_16 : decode prog_15_method_34_code 16 = .ok (.iload_n 1, 1) := by decide +kernel
theorem d_p15m34_17 : decode prog_15_method_34_code 17 = .ok (.iaload, 1) := by decide +kernel
theorem d_p15m34_18 : decode prog_15_method_34_code 18 = .ok (.istore_n 3, 1) := by decide +kernel
theorem d_p15m34_19 : decode prog_15_method_34_code 19 = .ok (.aload_n 0, 1) := by decide +kernel
theorem d_p15m34_20 : decode prog_15_method_34_code 20 = .ok (.getfield 22, 3) := by decide +kernel
theorem d_p15m34_23 : decode prog_15_method_34_code 23 = .ok (.iload_n 2, 1) := by decide +kernel
theorem d_p15m34_24 : decode prog_15_method_34_code 24 = .ok (.iaload, 1) := by decide +kernel
theorem d_p15m34_25 : decode prog_15_method_34_code 25 = .ok (.istore 4, 2) := by decide +kernel
theorem d_p15m34_27 : decode prog_15_method_34_code 27 = .ok (.aload_n 0, 1) := by decide +kernel
theorem d_p15m34_28 : decode prog_15_method_34_code 28 = .ok (.getfield 66, 3) := by decide +kernel
theorem d_p15m34_31 : decode prog_15_method_34_code 31 = .ok (.iload_n 1, 1) := by decide +kernel
theorem d_p15m34_32 : decode prog_15_method_34_code 32 = .ok (.iaload, 1) := by decide +kernel
theorem d_p15m34_33 : decode prog_15_method_34_code 33 = .ok (.ifCond .ne 12, 3) := by decide +kernel
theorem d_p15m34_36 : decode prog_15_method_34_code 36 = .ok (.iload 4, 2) := by decide +kernel
theorem d_p15m34_38 : decode prog_15_method_34_code 38 = .ok (.iload_n 3, 1) := by decide +kernel
theorem d_p15m34_39 : decode prog_15_method_34_code 39 = .ok (.if_icmp .eq 16, 3) := by decide +kernel
theorem d_p15m34_42 : decode prog_15_method_34_code 42 = .ok (.goto 11, 3) := by decide +kernel
theorem d_p15m34_45 : decode prog_15_method_34_code 45 = .ok (.iload 4, 2) := by decide +kernel
theorem d_p15m34_47 : decode prog_15_method_34_code 47 = .ok (.iload_n 3, 1) := by decide +kernel
theorem d_p15m34_48 : decode prog_15_method_34_code 48 = .ok (.iconst 2, 1) := by decide +kernel
theorem d_p15m34_49 : decode prog_15_method_34_code 49 = .ok (.iadd, 1) := by decide +kernel
theorem d_p15m34_50 : decode prog_15_method_34_code 50 = .ok (.if_icmp .ge 5, 3) := by decide +kernel
theorem d_p15m34_53 : decode prog_15_method_34_code 53 = .ok (.iconst 0, 1) := by decide +kernel
theorem d_p15m34_54 : decode prog_15_method_34_code 54 = .ok (.ireturn, 1) := by decide +kernel
theorem d_p15m34_55 : decode prog_15_method_34_code 55 = .ok (.iconst 0, 1) := by decide +kernel
theorem d_p15m34_56 : decode prog_15_method_34_code 56 = .ok (.istore 5, 2) := by decide +kernel
theorem d_p15m34_58 : decode prog_15_method_34_code 58 = .ok (.iload 5, 2) := by decide +kernel
theorem d_p15m34_60 : decode prog_15_method_34_code 60 = .ok (.iload_n 3, 1) := by decide +kernel
theorem d_p15m34_61 : decode prog_15_method_34_code 61 = .ok (.if_icmp .ge 38, 3) := by decide +kernel
theorem d_p15m34_64 : decode prog_15_method_34_code 64 = .ok (.aload_n 0, 1) := by decide +kernel
theorem d_p15m34_65 : decode prog_15_method_34_code 65 = .ok (.getfield 69, 3) := by decide +kernel
theorem d_p15m34_68 : decode prog_15_method_34_code 68 = .ok (.bipush 24, 2) := by decide +kernel
theorem d_p15m34_70 : decode prog_15_method_34_code 70 = .ok (.iload_n 1, 1) := by decide +kernel
theorem d_p15m34_71 : decode prog_15_method_34_code 71 = .ok (.imul, 1) := by decide +kernel
theorem d_p15m34_72 : decode prog_15_method_34_code 72 = .ok (.iload 5, 2) := by decide +kernel
theorem d_p15m34_74 : decode prog_15_method_34_code 74 = .ok (.iadd, 1) := by decide +kernel
theorem d_p15m34_75 : decode prog_15_method_34_code 75 = .ok (.iaload, 1) := by decide +kernel
theorem d_p15m34_76 : decode prog_15_method_34_code 76 = .ok (.aload_n 0, 1) := by decide +kernel
theorem d_p15m34_77 : decode prog_15_method_34_code 77 = .ok (.getfield 19, 3) := by decide +kernel
theorem d_p15m34_80 : decode prog_15_method_34_code 80 = .ok (.bipush 24, 2) := by decide +kernel
theorem d_p15m34_82 : decode prog_15_method_34_code 82 = .ok (.iload_n 2, 1) := by decide +kernel
theorem d_p15m34_83 : decode prog_15_method_34_code 83 = .ok (.imul, 1) := by decide +kernel
theorem d_p15m34_84 : decode prog_15_method_34_code 84 = .ok (.iload 5, 2) := by decide +kernel
theorem d_p15m34_86 : decode prog_15_method_34_code 86 = .ok (.iadd, 1) := by decide +kernel
theorem d_p15m34_87 : decode prog_15_method_34_code 87 = .ok (.iaload, 1) := by decide +kernel
theorem d_p15m34_88 : decode prog_15_method_34_code 88 = .ok (.if_icmp .eq 5, 3) := by decide +kernel
theorem d_p15m34_91 : decode prog_15_method_34_code 91 = .ok (.iconst 0, 1) := by decide +kernel
theorem d_p15m34_92 : decode prog_15_method_34_code 92 = .ok (.ireturn, 1) := by decide +kernel
theorem d_p15m34_93 : decode prog_15_method_34_code 93 = .ok (.iinc 5 1, 3) := by decide +kernel
theorem d_p15m34_96 : decode prog_15_method_34_code 96 = .ok (.goto (-38), 3) := by decide +kernel
theorem d_p15m34_99 : decode prog_15_method_34_code 99 = .ok (.aload_n 0, 1) := by decide +kernel
theorem d_p15m34_100 : decode prog_15_method_34_code 100 = .ok (.getfield 66, 3) := by decide +kernel
theorem d_p15m34_103 : decode prog_15_method_34_code 103 = .ok (.iload_n 1, 1) := by decide +kernel
theorem d_p15m34_104 : decode prog_15_method_34_code 104 = .ok (.iaload, 1) := by decide +kernel
theorem d_p15m34_105 : decode prog_15_method_34_code 105 = .ok (.ifCond .ne 5, 3) := by decide +kernel
theorem d_p15m34_108 : decode prog_15_method_34_code 108 = .ok (.iconst 1, 1) := by decide +kernel
theorem d_p15m34_109 : decode prog_15_method_34_code 109 = .ok (.ireturn, 1) := by decide +kernel
theorem d_p15m34_110 : decode prog_15_method_34_code 110 = .ok (.aload_n 0, 1) := by decide +kernel
theorem d_p15m34_111 : decode prog_15_method_34_code 111 = .ok (.getfield 19, 3) := by decide +kernel
theorem d_p15m34_114 : decode prog_15_method_34_code 114 = .ok (.bipush 24, 2) := by decide +kernel
theorem d_p15m34_116 : decode prog_15_method_34_code 116 = .ok (.iload_n 2, 1) := by decide +kernel
theorem d_p15m34_117 : decode prog_15_method_34_code 117 = .ok (.imul, 1) := by decide +kernel
theorem d_p15m34_118 : decode prog_15_method_34_code 118 = .ok (.iload_n 3, 1) := by decide +kernel
theorem d_p15m34_119 : decode prog_15_method_34_code 119 = .ok (.iadd, 1) := by decide +kernel
theorem d_p15m34_120 : decode prog_15_method_34_code 120 = .ok (.iaload, 1) := by decide +kernel
theorem d_p15m34_121 : decode prog_15_method_34_code 121 = .ok (.bipush 47, 2) := by decide +kernel
theorem d_p15m34_123 : decode prog_15_method_34_code 123 = .ok (.if_icmp .eq 5, 3) := by decide +kernel
theorem d_p15m34_126 : decode prog_15_method_34_code 126 = .ok (.iconst 0, 1) := by decide +kernel
theorem d_p15m34_127 : decode prog_15_method_34_code 127 = .ok (.ireturn, 1) := by decide +kernel
theorem d_p15m34_128 : decode prog_15_method_34_code 128 = .ok (.iload_n 3, 1) := by decide +kernel
theorem d_p15m34_129 : decode prog_15_method_34_code 129 = .ok (.iconst 1, 1) := by decide +kernel
theorem d_p15m34_130 : decode prog_15_method_34_code 130 = .ok (.iadd, 1) := by decide +kernel
theorem d_p15m34_131 : decode prog_15_method_34_code 131 = .ok (.istore 5, 2) := by decide +kernel
theorem d_p15m34_133 : decode prog_15_method_34_code 133 = .ok (.iload 5, 2) := by decide +kernel
theorem d_p15m34_135 : decode prog_15_method_34_code 135 = .ok (.iload 4, 2) := by decide +kernel
theorem d_p15m34_137 : decode prog_15_method_34_code 137 = .ok (.if_icmp .ge 38, 3) := by decide +kernel
theorem d_p15m34_140 : decode prog_15_method_34_code 140 = .ok (.aload_n 0, 1) := by decide +kernel
theorem d_p15m34_141 : decode prog_15_method_34_code 141 = .ok (.getfield 66, 3) := by decide +kernel
theorem d_p15m34_144 : decode prog_15_method_34_code 144 = .ok (.iload_n 1, 1) := by decide +kernel
theorem d_p15m34_145 : decode prog_15_method_34_code 145 = .ok (.iaload, 1) := by decide +kernel
theorem d_p15m34_146 : decode prog_15_method_34_code 146 = .ok (.iconst 1, 1) := by decide +kernel
theorem d_p15m34_147 : decode prog_15_method_34_code 147 = .ok (.if_icmp .ne 28, 3) := by decide +kernel
theorem d_p15m34_150 : decode prog_15_method_34_code 150 = .ok (.aload_n 0, 1) := by decide +kernel
theorem d_p15m34_151 : decode prog_15_method_34_code 151 = .ok (.getfield 19, 3) := by decide +kernel
theorem d_p15m34_154 : decode prog_15_method_34_code 154 = .ok (.bipush 24, 2) := by decide +kernel
theorem d_p15m34_156 : decode prog_15_method_34_code 156 = .ok (.iload_n 2, 1) := by decide +kernel
theorem d_p15m34_157 : decode prog_15_method_34_code 157 = .ok (.imul, 1) := by decide +kernel
theorem d_p15m34_158 : decode prog_15_method_34_code 158 = .ok (.iload 5, 2) := by decide +kernel
theorem d_p15m34_160 : decode prog_15_method_34_code 160 = .ok (.iadd, 1) := by decide +kernel
theorem d_p15m34_161 : decode prog_15_method_34_code 161 = .ok (.iaload, 1) := by decide +kernel
theorem d_p15m34_162 : decode prog_15_method_34_code 162 = .ok (.bipush 47, 2) := by decide +kernel
theorem d_p15m34_164 : decode prog_15_method_34_code 164 = .ok (.if_icmp .ne 5, 3) := by decide +kernel
theorem d_p15m34_167 : decode prog_15_method_34_code 167 = .ok (.iconst 0, 1) := by decide +kernel
theorem d_p15m34_168 : decode prog_15_method_34_code 168 = .ok (.ireturn, 1) := by decide +kernel
theorem d_p15m34_169 : decode prog_15_method_34_code 169 = .ok (.iinc 5 1, 3) := by decide +kernel
theorem d_p15m34_172 : decode prog_15_method_34_code 172 = .ok (.goto (-39), 3) := by decide +kernel
theorem d_p15m34_175 : decode prog_15_method_34_code 175 = .ok (.iconst 1, 1) := by decide +kernel
theorem d_p15m34_176 : decode prog_15_method_34_code 176 = .ok (.ireturn, 1) := by decide +kernel
abbrev y_Mod_fitsClass : MethodName := ⟨"PolicyDeskModel", "fitsClass", "(II)Z"⟩
theorem ok_Mod_fitsClass : pd_ok y_Mod_fitsClass prog_15_method_34_code 6 (some .boolean) 2 := ⟨mT_1424, mT_21, by decide, by decide +kernel⟩
abbrev rm_Mod_fitsClass : Room := { frames := 0, cells := 0, slots := 0, locals := 0 }
set_option maxHeartbeats 4000000 in
set_option maxRecDepth 100000 in
theorem lp_Mod_fitsClass_133 (l : Launch) (G : pd_G) (h : pd_H) {y : Nat} {ad : Nat → Nat} {fv : Nat → Nat → Int32} {iv : Nat → Int32} {tl : Int64} {n : Nat} {R : Nat → pd_cr} {u : Nat} {U : Nat → pd_rr} {r9 c9 : Nat} (hMO : pd_MO G h y ad fv iv tl) (hC : gm_C fv iv n R) (hU : gm_U fv iv u U) (hr9 : r9 < u) (hc9 : c9 < n) {p : Program} {e : Env} {s : State} {m : MethodId} {below : List Frame} {meth : Method} {c : Code} (X : pd_B p s m [.ref y, .int (nI r9), .int (nI c9)].toArray meth c G y_Mod_fitsClass.cls prog_15_method_34_code 6 (some .boolean)) (hmn : meth.name = y_Mod_fitsClass.name) :
    ∀ (kk9 : Nat) (i : Nat), (gr_rch (U r9).2.1 = 1 ∨ gr_rch (U r9).2.1 = 2) → ((gr_pn (U r9).2.1).length + 2 ≤ (R c9).1.length) → ((R c9).1.getD (gr_pn (U r9).2.1).length 0 = 47) → (∀ j, j < (gr_pn (U r9).2.1).length → (gr_pn (U r9).2.1).getD j 0 = (R c9).1.getD j 0) → ((gr_pn (U r9).2.1).length < i ∧ i ≤ (R c9).1.length) → (gr_rch (U r9).2.1 = 2 → ∀ j, (gr_pn (U r9).2.1).length < j → j < i → ¬ (R c9).1.getD j 0 = 47) → (R c9).1.length - i < kk9 → ∀ (H : Heap) (locs : List Loc), pd_w G s H locs h → ∀ ls : Array Slot, lv_has ls 6 [(5, .int (nI i)), (0, .ref y), (1, .int (nI r9)), (2, .int (nI c9)), (3, .int (nI ((gr_pn (U r9).2.1).length))), (4, .int (nI ((R c9).1.length)))] → W p l e rm_Mod_fitsClass s m [.ref y, .int (nI r9), .int (nI c9)].toArray below meth c H locs 0 0 (MQ below (pd_Q G pd_vb (fun r h1 => r = gr_fcl (R c9).1 (U r9).2.1 ∧ h = h1)) [.ref y, .int (nI r9), .int (nI c9)].toArray s rm_Mod_fitsClass.cells rm_Mod_fitsClass.slots (fun q => G.2.1 ≤ q)) (F0 m 133 ls []) := by
  have hx := X.1
  have hb := X.2.1
  have hz_y := hMO.2.1
  have hy0 : h y = some (20, .inr (10, [.ref (ad 0), .ref (ad 1), .ref (ad 2), .int (iv 3), .int (iv 4), .int (iv 5), .ref (ad 6), .ref (ad 7), .ref (ad 8), .ref (ad 9), .ref (ad 10), .ref (ad 11), .int (iv 12), .ref (ad 13), .ref (ad 14), .ref (ad 15), .ref (ad 16), .ref (ad 17), .ref (ad 18), .ref (ad 19), .int (iv 20), .ref (ad 21), .ref (ad 22), .ref (ad 23), .ref (ad 24), .ref (ad 25), .ref (ad 26), .ref (ad 27), .ref (ad 28), .int (iv 29), .ref (ad 30), .ref (ad 31), .int (iv 32), .int (iv 33), .int (iv 34), .int (iv 35), .long tl, .int (iv 37), .int (iv 38), .int (iv 39), .int (iv 40), .ref (ad 41), .ref (ad 42), .int (iv 43)])) := hMO.1
  have ha6 : h (ad 6) = some (36, .inl (.int, 336, .inl (fv 6))) := (hMO.2.2 6 (by decide)).1
  have ha7 : h (ad 7) = some (37, .inl (.int, 14, .inl (fv 7))) := (hMO.2.2 7 (by decide)).1
  have ha22 : h (ad 22) = some (52, .inl (.int, 24, .inl (fv 22))) := (hMO.2.2 22 (by decide)).1
  have ha23 : h (ad 23) = some (53, .inl (.int, 576, .inl (fv 23))) := (hMO.2.2 23 (by decide)).1
  have ha24 : h (ad 24) = some (54, .inl (.int, 24, .inl (fv 24))) := (hMO.2.2 24 (by decide)).1
  obtain ⟨hiv12, hn2, hn14, hCc⟩ := id hC
  obtain ⟨rc1, rc2, rc3, rc4, rc5, rc6, rc7, rc8, rc9, rc10⟩ := hCc c9 hc9
  obtain ⟨hiv29, hu24, hUu⟩ := id hU
  obtain ⟨ru1, ru2, ru3, ru4, ru5, ru6, ru7, ru8, ru9, ru10, ru11⟩ := hUu r9 hr9
  have hrc := gr_rch_le (U r9).2.1
  have hbh := gr_bh_le (U r9).2.1
  intro kk9
  induction kk9 with
  | zero => intros; omega
  | succ kk9 ih =>
    intro i hr12 hln h47 heq2 hi hno hmu H locs w ls hl
    refine lv_iload hx hb d_p15m34_133 (lv_at hl 0 rfl) ?_
    refine lv_iload hx hb d_p15m34_135 (lv_at hl 5 rfl) ?_
    refine pd_jge (tgt := 175) hx hb d_p15m34_137 (by decide) (by omega) (by omega) (fun q1 => ?_) (fun q1 => ?_)
    · -- taken: 175
      refine lv_iconst (v := nI 1) hx hb d_p15m34_175 (by decide) ?_
      refine W.eq (g2 := F0 m 176 ls [.int (pd_b true)]) rfl ?_
      exact pd_zret (v := true) X w ⟨(gm_fcl_y (by rcases Nat.lt_or_ge (gr_rch (U r9).2.1) 2 with z | z; left; omega; right; exact ⟨by omega, fun j h1 h2 => hno (by omega) j h1 (by omega)⟩) (by omega) h47 heq2).symm, rfl⟩ (by decide) (by decide) d_p15m34_176
    · -- not taken: 140
      refine lv_aload_n hx hb d_p15m34_140 rfl (lv_at hl 1 rfl) ?_
      refine pd_get X w hy0 rfl 22 (by decide) mT_1161 rfl rfl d_p15m34_141 ?_
      refine lv_iload_n hx hb d_p15m34_144 rfl (lv_at hl 2 rfl) ?_
      refine pd_iald X w ha22 (by omega) (by omega) d_p15m34_145 ?_
      refine pd_top (v' := .int (nI (3 - gr_rch (U r9).2.1))) (congrArg Value.int ru3) ?_
      refine lv_iconst (v := nI 1) hx hb d_p15m34_146 (by decide) ?_
      refine pd_jne (tgt := 175) hx hb d_p15m34_147 (by decide) (by omega) (by omega) (fun q2 => ?_) (fun q2 => ?_)
      · -- taken: 175
        refine lv_iconst (v := nI 1) hx hb d_p15m34_175 (by decide) ?_
        refine W.eq (g2 := F0 m 176 ls [.int (pd_b true)]) rfl ?_
        exact pd_zret (v := true) X w ⟨(gm_fcl_y (Or.inl (by omega)) (by omega) h47 heq2).symm, rfl⟩ (by decide) (by decide) d_p15m34_176
      · -- not taken: 150
        refine lv_aload_n hx hb d_p15m34_150 rfl (lv_at hl 1 rfl) ?_
        refine pd_get X w hy0 rfl 6 (by decide) mT_1145 rfl rfl d_p15m34_151 ?_
        refine lv_bipush (v := nI 24) hx hb d_p15m34_154 (by decide) ?_
        refine lv_iload_n hx hb d_p15m34_156 rfl (lv_at hl 3 rfl) ?_
        refine pd_imul hx hb d_p15m34_157 ?_
        refine lv_iload hx hb d_p15m34_158 (lv_at hl 0 rfl) ?_
        refine pd_iadd hx hb d_p15m34_160 ?_
        refine pd_iald X w ha6 (by omega) (by omega) d_p15m34_161 ?_
        refine pd_top (v' := .int (nI ((R c9).1.getD i 0))) (congrArg Value.int (rc3 i (by omega))) ?_
        have := tx_lt rc4 i
        refine lv_bipush (v := nI 47) hx hb d_p15m34_162 (by decide) ?_
        refine pd_jne (tgt := 169) hx hb d_p15m34_164 (by decide) (by omega) (by omega) (fun q3 => ?_) (fun q3 => ?_)
        · -- taken: 169
          refine pd_iinc (k := 0) (d := 1) (lv' := [(5, .int (nI (i + 1))), (0, .ref y), (1, .int (nI r9)), (2, .int (nI c9)), (3, .int (nI ((gr_pn (U r9).2.1).length))), (4, .int (nI ((R c9).1.length)))]) hx hb d_p15m34_169 (by decide) hl rfl (by decide) rfl (fun ls hl => ?_)
          refine lv_goto (tgt := 133) hx hb d_p15m34_172 (by decide) ?_
          exact ih (i + 1) (hr12) (hln) (h47) (heq2) (by omega) (fun z j h1 h2 => by by_cases e9 : j = i; subst e9; omega; exact hno z j h1 (by omega)) (by omega) _ _ w ls (lv_sub hl [0, 1, 2, 3, 4, 5] rfl)
        · -- not taken: 167
          refine lv_iconst (v := nI 0) hx hb d_p15m34_167 (by decide) ?_
          refine W.eq (g2 := F0 m 168 ls [.int (pd_b false)]) rfl ?_
          exact pd_zret (v := false) X w ⟨(gm_fcl_sl (i := i) (by omega) (by omega) (by omega) (by omega)).symm, rfl⟩ (by decide) (by decide) d_p15m34_168
set_option maxHeartbeats 4000000 in
set_option maxRecDepth 100000 in
theorem lp_Mod_fitsClass_58 (l : Launch) (G : pd_G) (h : pd_H) {y : Nat} {ad : Nat → Nat} {fv : Nat → Nat → Int32} {iv : Nat → Int32} {tl : Int64} {n : Nat} {R : Nat → pd_cr} {u : Nat} {U : Nat → pd_rr} {r9 c9 : Nat} (hMO : pd_MO G h y ad fv iv tl) (hC : gm_C fv iv n R) (hU : gm_U fv iv u U) (hr9 : r9 < u) (hc9 : c9 < n) {p : Program} {e : Env} {s : State} {m : MethodId} {below : List Frame} {meth : Method} {c : Code} (X : pd_B p s m [.ref y, .int (nI r9), .int (nI c9)].toArray meth c G y_Mod_fitsClass.cls prog_15_method_34_code 6 (some .boolean)) (hmn : meth.name = y_Mod_fitsClass.name) :
    ∀ (kk9 : Nat) (i : Nat), (¬ gr_rch (U r9).2.1 = 0) → ((gr_rch (U r9).2.1 = 3 ∧ (R c9).1.length = (gr_pn (U r9).2.1).length) ∨ ((gr_rch (U r9).2.1 = 1 ∨ gr_rch (U r9).2.1 = 2) ∧ (gr_pn (U r9).2.1).length + 2 ≤ (R c9).1.length)) → (i ≤ (gr_pn (U r9).2.1).length) → (∀ j, j < i → (gr_pn (U r9).2.1).getD j 0 = (R c9).1.getD j 0) → (gr_pn (U r9).2.1).length - i < kk9 → ∀ (H : Heap) (locs : List Loc), pd_w G s H locs h → ∀ ls : Array Slot, lv_has ls 6 [(5, .int (nI i)), (0, .ref y), (1, .int (nI r9)), (2, .int (nI c9)), (3, .int (nI ((gr_pn (U r9).2.1).length))), (4, .int (nI ((R c9).1.length)))] → W p l e rm_Mod_fitsClass s m [.ref y, .int (nI r9), .int (nI c9)].toArray below meth c H locs 0 0 (MQ below (pd_Q G pd_vb (fun r h1 => r = gr_fcl (R c9).1 (U r9).2.1 ∧ h = h1)) [.ref y, .int (nI r9), .int (nI c9)].toArray s rm_Mod_fitsClass.cells rm_Mod_fitsClass.slots (fun q => G.2.1 ≤ q)) (F0 m 58 ls []) := by
  have hx := X.1
  have hb := X.2.1
  have hz_y := hMO.2.1
  have hy0 : h y = some (20, .inr (10, [.ref (ad 0), .ref (ad 1), .ref (ad 2), .int (iv 3), .int (iv 4), .int (iv 5), .ref (ad 6), .ref (ad 7), .ref (ad 8), .ref (ad 9), .ref (ad 10), .ref (ad 11), .int (iv 12), .ref (ad 13), .ref (ad 14), .ref (ad 15), .ref (ad 16), .ref (ad 17), .ref (ad 18), .ref (ad 19), .int (iv 20), .ref (ad 21), .ref (ad 22), .ref (ad 23), .ref (ad 24), .ref (ad 25), .ref (ad 26), .ref (ad 27), .ref (ad 28), .int (iv 29), .ref (ad 30), .ref (ad 31), .int (iv 32), .int (iv 33), .int (iv 34), .int (iv 35), .long tl, .int (iv 37), .int (iv 38), .int (iv 39), .int (iv 40), .ref (ad 41), .ref (ad 42), .int (iv 43)])) := hMO.1
  have ha6 : h (ad 6) = some (36, .inl (.int, 336, .inl (fv 6))) := (hMO.2.2 6 (by decide)).1
  have ha7 : h (ad 7) = some (37, .inl (.int, 14, .inl (fv 7))) := (hMO.2.2 7 (by decide)).1
  have ha22 : h (ad 22) = some (52, .inl (.int, 24, .inl (fv 22))) := (hMO.2.2 22 (by decide)).1
  have ha23 : h (ad 23) = some (53, .inl (.int, 576, .inl (fv 23))) := (hMO.2.2 23 (by decide)).1
  have ha24 : h (ad 24) = some (54, .inl (.int, 24, .inl (fv 24))) := (hMO.2.2 24 (by decide)).1
  obtain ⟨hiv12, hn2, hn14, hCc⟩ := id hC
  obtain ⟨rc1, rc2, rc3, rc4, rc5, rc6, rc7, rc8, rc9, rc10⟩ := hCc c9 hc9
  obtain ⟨hiv29, hu24, hUu⟩ := id hU
  obtain ⟨ru1, ru2, ru3, ru4, ru5, ru6, ru7, ru8, ru9, ru10, ru11⟩ := hUu r9 hr9
  have hrc := gr_rch_le (U r9).2.1
  have hbh := gr_bh_le (U r9).2.1
  intro kk9
  induction kk9 with
  | zero => intros; omega
  | succ kk9 ih =>
    intro i h0 hsz hi heq hmu H locs w ls hl
    refine lv_iload hx hb d_p15m34_58 (lv_at hl 0 rfl) ?_
    refine lv_iload_n hx hb d_p15m34_60 rfl (lv_at hl 4 rfl) ?_
    refine pd_jge (tgt := 99) hx hb d_p15m34_61 (by decide) (by omega) (by omega) (fun q1 => ?_) (fun q1 => ?_)
    · -- taken: 99
      refine lv_aload_n hx hb d_p15m34_99 rfl (lv_at hl 1 rfl) ?_
      refine pd_get X w hy0 rfl 22 (by decide) mT_1161 rfl rfl d_p15m34_100 ?_
      refine lv_iload_n hx hb d_p15m34_103 rfl (lv_at hl 2 rfl) ?_
      refine pd_iald X w ha22 (by omega) (by omega) d_p15m34_104 ?_
      refine pd_top (v' := .int (nI (3 - gr_rch (U r9).2.1))) (congrArg Value.int ru3) ?_
      refine pd_zne (tgt := 110) hx hb d_p15m34_105 (by decide) (by omega) (fun q2 => ?_) (fun q2 => ?_)
      · -- taken: 110
        refine lv_aload_n hx hb d_p15m34_110 rfl (lv_at hl 1 rfl) ?_
        refine pd_get X w hy0 rfl 6 (by decide) mT_1145 rfl rfl d_p15m34_111 ?_
        refine lv_bipush (v := nI 24) hx hb d_p15m34_114 (by decide) ?_
        refine lv_iload_n hx hb d_p15m34_116 rfl (lv_at hl 3 rfl) ?_
        refine pd_imul hx hb d_p15m34_117 ?_
        refine lv_iload_n hx hb d_p15m34_118 rfl (lv_at hl 4 rfl) ?_
        refine pd_iadd hx hb d_p15m34_119 ?_
        refine pd_iald X w ha6 (by omega) (by omega) d_p15m34_120 ?_
        refine pd_top (v' := .int (nI ((R c9).1.getD ((gr_pn (U r9).2.1).length) 0))) (congrArg Value.int (rc3 ((gr_pn (U r9).2.1).length) (by omega))) ?_
        have := tx_lt rc4 ((gr_pn (U r9).2.1).length)
        refine lv_bipush (v := nI 47) hx hb d_p15m34_121 (by decide) ?_
        refine pd_jeq (tgt := 128) hx hb d_p15m34_123 (by decide) (by omega) (by omega) (fun q3 => ?_) (fun q3 => ?_)
        · -- taken: 128
          refine lv_iload_n hx hb d_p15m34_128 rfl (lv_at hl 4 rfl) ?_
          refine lv_iconst (v := nI 1) hx hb d_p15m34_129 (by decide) ?_
          refine pd_iadd hx hb d_p15m34_130 ?_
          refine lv_istore (lv' := [(5, .int (nI (((gr_pn (U r9).2.1).length) + 1))), (0, .ref y), (1, .int (nI r9)), (2, .int (nI c9)), (3, .int (nI ((gr_pn (U r9).2.1).length))), (4, .int (nI ((R c9).1.length)))]) hx hb d_p15m34_131 hl (by decide) rfl (fun ls hl => ?_)
          exact lp_Mod_fitsClass_133 l G h hMO hC hU hr9 hc9 X hmn ((R c9).1.length + 1) (((gr_pn (U r9).2.1).length) + 1) (by omega) (by omega) (by omega) (fun j hj => heq j (by omega)) (by omega) (fun _ j h1 h2 => by omega) (by omega) _ _ w ls (lv_sub hl [0, 1, 2, 3, 4, 5] rfl)
        · -- not taken: 126
          refine lv_iconst (v := nI 0) hx hb d_p15m34_126 (by decide) ?_
          refine W.eq (g2 := F0 m 127 ls [.int (pd_b false)]) rfl ?_
          exact pd_zret (v := false) X w ⟨(gm_fcl_ns (by omega) (by omega)).symm, rfl⟩ (by decide) (by decide) d_p15m34_127
      · -- not taken: 108
        refine lv_iconst (v := nI 1) hx hb d_p15m34_108 (by decide) ?_
        refine W.eq (g2 := F0 m 109 ls [.int (pd_b true)]) rfl ?_
        exact pd_zret (v := true) X w ⟨(gm_fcl_ex (by omega) (by omega) (fun j hj => heq j (by omega))).symm, rfl⟩ (by decide) (by decide) d_p15m34_109
    · -- not taken: 64
      refine lv_aload_n hx hb d_p15m34_64 rfl (lv_at hl 1 rfl) ?_
      refine pd_get X w hy0 rfl 23 (by decide) mT_1162 rfl rfl d_p15m34_65 ?_
      refine lv_bipush (v := nI 24) hx hb d_p15m34_68 (by decide) ?_
      refine lv_iload_n hx hb d_p15m34_70 rfl (lv_at hl 2 rfl) ?_
      refine pd_imul hx hb d_p15m34_71 ?_
      refine lv_iload hx hb d_p15m34_72 (lv_at hl 0 rfl) ?_
      refine pd_iadd hx hb d_p15m34_74 ?_
      refine pd_iald X w ha23 (by omega) (by omega) d_p15m34_75 ?_
      refine pd_top (v' := .int (nI ((gr_pn (U r9).2.1).getD i 0))) (congrArg Value.int (ru6 i (by omega))) ?_
      have := tx_lt ru7 i
      refine lv_aload_n hx hb d_p15m34_76 rfl (lv_at hl 1 rfl) ?_
      refine pd_get X w hy0 rfl 6 (by decide) mT_1145 rfl rfl d_p15m34_77 ?_
      refine lv_bipush (v := nI 24) hx hb d_p15m34_80 (by decide) ?_
      refine lv_iload_n hx hb d_p15m34_82 rfl (lv_at hl 3 rfl) ?_
      refine pd_imul hx hb d_p15m34_83 ?_
      refine lv_iload hx hb d_p15m34_84 (lv_at hl 0 rfl) ?_
      refine pd_iadd hx hb d_p15m34_86 ?_
      refine pd_iald X w ha6 (by omega) (by omega) d_p15m34_87 ?_
      refine pd_top (v' := .int (nI ((R c9).1.getD i 0))) (congrArg Value.int (rc3 i (by omega))) ?_
      have := tx_lt rc4 i
      refine pd_jeq (tgt := 93) hx hb d_p15m34_88 (by decide) (by omega) (by omega) (fun q4 => ?_) (fun q4 => ?_)
      · -- taken: 93
        refine pd_iinc (k := 0) (d := 1) (lv' := [(5, .int (nI (i + 1))), (0, .ref y), (1, .int (nI r9)), (2, .int (nI c9)), (3, .int (nI ((gr_pn (U r9).2.1).length))), (4, .int (nI ((R c9).1.length)))]) hx hb d_p15m34_93 (by decide) hl rfl (by decide) rfl (fun ls hl => ?_)
        refine lv_goto (tgt := 58) hx hb d_p15m34_96 (by decide) ?_
        exact ih (i + 1) (h0) (hsz) (by omega) (fun j hj => by by_cases e9 : j = i; subst e9; omega; exact heq j (by omega)) (by omega) _ _ w ls (lv_sub hl [0, 1, 2, 3, 4, 5] rfl)
      · -- not taken: 91
        refine lv_iconst (v := nI 0) hx hb d_p15m34_91 (by decide) ?_
        refine W.eq (g2 := F0 m 92 ls [.int (pd_b false)]) rfl ?_
        exact pd_zret (v := false) X w ⟨(gm_fcl_mis (i := i) h0 (by omega) (by omega)).symm, rfl⟩ (by decide) (by decide) d_p15m34_92
set_option maxHeartbeats 4000000 in
set_option maxRecDepth 100000 in
theorem c_Mod_fitsClass (l : Launch) (G : pd_G) (h : pd_H) {y : Nat} {ad : Nat → Nat} {fv : Nat → Nat → Int32} {iv : Nat → Int32} {tl : Int64} {n : Nat} {R : Nat → pd_cr} {u : Nat} {U : Nat → pd_rr} {r9 c9 : Nat} (hMO : pd_MO G h y ad fv iv tl) (hC : gm_C fv iv n R) (hU : gm_U fv iv u U) (hr9 : r9 < u) (hc9 : c9 < n) : pd_M l y_Mod_fitsClass prog_15_method_34_code 6 (some .boolean) rm_Mod_fitsClass G h [.ref y, .int (nI r9), .int (nI c9)] pd_vb (fun r h1 => r = gr_fcl (R c9).1 (U r9).2.1 ∧ h = h1) := by
  refine pd_M.of (by decide) (Nat.le_of_ble_eq_true rfl) ?_
  intro p e s m below meth c X hmn w ls hl
  have hx := X.1
  have hb := X.2.1
  have hl : lv_has ls 6 [(0, .ref y), (1, .int (nI r9)), (2, .int (nI c9))] := hl
  have hz_y := hMO.2.1
  have hy0 : h y = some (20, .inr (10, [.ref (ad 0), .ref (ad 1), .ref (ad 2), .int (iv 3), .int (iv 4), .int (iv 5), .ref (ad 6), .ref (ad 7), .ref (ad 8), .ref (ad 9), .ref (ad 10), .ref (ad 11), .int (iv 12), .ref (ad 13), .ref (ad 14), .ref (ad 15), .ref (ad 16), .ref (ad 17), .ref (ad 18), .ref (ad 19), .int (iv 20), .ref (ad 21), .ref (ad 22), .ref (ad 23), .ref (ad 24), .ref (ad 25), .ref (ad 26), .ref (ad 27), .ref (ad 28), .int (iv 29), .ref (ad 30), .ref (ad 31), .int (iv 32), .int (iv 33), .int (iv 34), .int (iv 35), .long tl, .int (iv 37), .int (iv 38), .int (iv 39), .int (iv 40), .ref (ad 41), .ref (ad 42), .int (iv 43)])) := hMO.1
  have ha6 : h (ad 6) = some (36, .inl (.int, 336, .inl (fv 6))) := (hMO.2.2 6 (by decide)).1
  have ha7 : h (ad 7) = some (37, .inl (.int, 14, .inl (fv 7))) := (hMO.2.2 7 (by decide)).1
  have ha22 : h (ad 22) = some (52, .inl (.int, 24, .inl (fv 22))) := (hMO.2.2 22 (by decide)).1
  have ha23 : h (ad 23) = some (53, .inl (.int, 576, .inl (fv 23))) := (hMO.2.2 23 (by decide)).1
  have ha24 : h (ad 24) = some (54, .inl (.int, 24, .inl (fv 24))) := (hMO.2.2 24 (by decide)).1
  obtain ⟨hiv12, hn2, hn14, hCc⟩ := id hC
  obtain ⟨rc1, rc2, rc3, rc4, rc5, rc6, rc7, rc8, rc9, rc10⟩ := hCc c9 hc9
  obtain ⟨hiv29, hu24, hUu⟩ := id hU
  obtain ⟨ru1, ru2, ru3, ru4, ru5, ru6, ru7, ru8, ru9, ru10, ru11⟩ := hUu r9 hr9
  have hrc := gr_rch_le (U r9).2.1
  have hbh := gr_bh_le (U r9).2.1
  refine lv_aload_n hx hb d_p15m34_0 rfl (lv_at hl 0 rfl) ?_
  refine pd_get X w hy0 rfl 22 (by decide) mT_1161 rfl rfl d_p15m34_1 ?_
  refine lv_iload_n hx hb d_p15m34_4 rfl (lv_at hl 1 rfl) ?_
  refine pd_iald X w ha22 (by omega) (by omega) d_p15m34_5 ?_
  refine pd_top (v' := .int (nI (3 - gr_rch (U r9).2.1))) (congrArg Value.int ru3) ?_
  refine lv_iconst (v := nI 3) hx hb d_p15m34_6 (by decide) ?_
  refine pd_jne (tgt := 12) hx hb d_p15m34_7 (by decide) (by omega) (by omega) (fun q1 => ?_) (fun q1 => ?_)
  · -- taken: 12
    refine lv_aload_n hx hb d_p15m34_12 rfl (lv_at hl 0 rfl) ?_
    refine pd_get X w hy0 rfl 24 (by decide) mT_1163 rfl rfl d_p15m34_13 ?_
    refine lv_iload_n hx hb d_p15m34_16 rfl (lv_at hl 1 rfl) ?_
    refine pd_iald X w ha24 (by omega) (by omega) d_p15m34_17 ?_
    refine pd_top (v' := .int (nI ((gr_pn (U r9).2.1).length))) (congrArg Value.int ru4) ?_
    refine lv_istore_n (lv' := [(3, .int (nI ((gr_pn (U r9).2.1).length))), (0, .ref y), (1, .int (nI r9)), (2, .int (nI c9))]) hx hb d_p15m34_18 rfl hl (by decide) rfl (fun ls hl => ?_)
    refine lv_aload_n hx hb d_p15m34_19 rfl (lv_at hl 1 rfl) ?_
    refine pd_get X w hy0 rfl 7 (by decide) mT_1146 rfl rfl d_p15m34_20 ?_
    refine lv_iload_n hx hb d_p15m34_23 rfl (lv_at hl 3 rfl) ?_
    refine pd_iald X w ha7 (by omega) (by omega) d_p15m34_24 ?_
    refine pd_top (v' := .int (nI ((R c9).1.length))) (congrArg Value.int rc1) ?_
    refine lv_istore (lv' := [(4, .int (nI ((R c9).1.length))), (3, .int (nI ((gr_pn (U r9).2.1).length))), (0, .ref y), (1, .int (nI r9)), (2, .int (nI c9))]) hx hb d_p15m34_25 hl (by decide) rfl (fun ls hl => ?_)
    refine lv_aload_n hx hb d_p15m34_27 rfl (lv_at hl 2 rfl) ?_
    refine pd_get X w hy0 rfl 22 (by decide) mT_1161 rfl rfl d_p15m34_28 ?_
    refine lv_iload_n hx hb d_p15m34_31 rfl (lv_at hl 3 rfl) ?_
    refine pd_iald X w ha22 (by omega) (by omega) d_p15m34_32 ?_
    refine pd_top (v' := .int (nI (3 - gr_rch (U r9).2.1))) (congrArg Value.int ru3) ?_
    refine pd_zne (tgt := 45) hx hb d_p15m34_33 (by decide) (by omega) (fun q2 => ?_) (fun q2 => ?_)
    · -- taken: 45
      refine lv_iload hx hb d_p15m34_45 (lv_at hl 0 rfl) ?_
      refine lv_iload_n hx hb d_p15m34_47 rfl (lv_at hl 1 rfl) ?_
      refine lv_iconst (v := nI 2) hx hb d_p15m34_48 (by decide) ?_
      refine pd_iadd hx hb d_p15m34_49 ?_
      refine pd_jge (tgt := 55) hx hb d_p15m34_50 (by decide) (by omega) (by omega) (fun q3 => ?_) (fun q3 => ?_)
      · -- taken: 55
        refine lv_iconst (v := nI 0) hx hb d_p15m34_55 (by decide) ?_
        refine lv_istore (lv' := [(5, .int (nI 0)), (4, .int (nI ((R c9).1.length))), (3, .int (nI ((gr_pn (U r9).2.1).length))), (0, .ref y), (1, .int (nI r9)), (2, .int (nI c9))]) hx hb d_p15m34_56 hl (by decide) rfl (fun ls hl => ?_)
        exact lp_Mod_fitsClass_58 l G h hMO hC hU hr9 hc9 X hmn ((gr_pn (U r9).2.1).length + 1) 0 (by omega) (by omega) (by omega) (fun j hj => absurd hj (Nat.not_lt_zero j)) (by omega) _ _ w ls (lv_sub hl [0, 3, 4, 5, 2, 1] rfl)
      · -- not taken: 53
        refine lv_iconst (v := nI 0) hx hb d_p15m34_53 (by decide) ?_
        refine W.eq (g2 := F0 m 54 ls [.int (pd_b false)]) rfl ?_
        exact pd_zret (v := false) X w ⟨(gm_fcl_short (by omega) rc10 (by omega)).symm, rfl⟩ (by decide) (by decide) d_p15m34_54
    · -- not taken: 36
      refine lv_iload hx hb d_p15m34_36 (lv_at hl 0 rfl) ?_
      refine lv_iload_n hx hb d_p15m34_38 rfl (lv_at hl 1 rfl) ?_
      refine pd_jeq (tgt := 55) hx hb d_p15m34_39 (by decide) (by omega) (by omega) (fun q4 => ?_) (fun q4 => ?_)
      · -- taken: 55
        refine lv_iconst (v := nI 0) hx hb d_p15m34_55 (by decide) ?_
        refine lv_istore (lv' := [(5, .int (nI 0)), (4, .int (nI ((R c9).1.length))), (3, .int (nI ((gr_pn (U r9).2.1).length))), (0, .ref y), (1, .int (nI r9)), (2, .int (nI c9))]) hx hb d_p15m34_56 hl (by decide) rfl (fun ls hl => ?_)
        exact lp_Mod_fitsClass_58 l G h hMO hC hU hr9 hc9 X hmn ((gr_pn (U r9).2.1).length + 1) 0 (by omega) (by omega) (by omega) (fun j hj => absurd hj (Nat.not_lt_zero j)) (by omega) _ _ w ls (lv_sub hl [0, 3, 4, 5, 2, 1] rfl)
      · -- not taken: 42
        refine lv_goto (tgt := 53) hx hb d_p15m34_42 (by decide) ?_
        refine lv_iconst (v := nI 0) hx hb d_p15m34_53 (by decide) ?_
        refine W.eq (g2 := F0 m 54 ls [.int (pd_b false)]) rfl ?_
        exact pd_zret (v := false) X w ⟨(gm_fcl_en (by omega) (by omega)).symm, rfl⟩ (by decide) (by decide) d_p15m34_54
  · -- not taken: 10
    refine lv_iconst (v := nI 1) hx hb d_p15m34_10 (by decide) ?_
    refine W.eq (g2 := F0 m 11 ls [.int (pd_b true)]) rfl ?_
    exact pd_zret (v := true) X w ⟨by unfold gr_fcl; rw [if_pos (by omega)], rfl⟩ (by decide) (by decide) d_p15m34_11
theorem d_p15m36_0 : decode prog_15_method_36_code 0 = .ok (.aload_n 0, 1) := by decide +kernel
theorem d_p15m36_1 : decode prog_15_method_36_code 1 = .ok (.getfield 66, 3) := by decide +kernel
theorem d_p15m36_4 : decode prog_15_method_36_code 4 = .ok (.iload_n 1, 1) := by decide +kernel
theorem d_p15m36_5 : decode prog_15_method_36_code 5 = .ok (.iaload, 1) := by decide +kernel
theorem d_p15m36_6 : decode prog_15_method_36_code 6 = .ok (.aload_n 0, 1) := by decide +kernel
theorem d_p15m36_7 : decode prog_15_method_36_code 7 = .ok (.getfield 66, 3) := by decide +kernel
theorem d_p15m36_10 : decode prog_15_method_36_code 10 = .ok (.iload_n 2, 1) := by decide +kernel
theorem d_p15m36_11 : decode prog_15_method_36_code 11 = .ok (.iaload, 1) := by decide +kernel
theorem d_p15m36_12 : decode prog_15_method_36_code 12 = .ok (.if_icmp .eq 24, 3) := by decide +kernel
theorem d_p15m36_15 : decode prog_15_method_36_code 15 = .ok (.aload_n 0, 1) := by decide +kernel
theorem d_p15m36_16 : decode prog_15_method_36_code 16 = .ok (.getfield 66, 3) := by decide +kernel
theorem d_p15m36_19 : decode prog_15_method_36_code 19 = .ok (.iload_n 1, 1) := by decide +kernel
theorem d_p15m36_20 : decode prog_15_method_36_code 20 = .ok (.iaload, 1) := by decide +kernel
theorem d_p15m36_21 : decode prog_15_method_36_code 21 = .ok (.aload_n 0, 1) := by decide +kernel
theorem d_p15m36_22 : decode prog_15_method_36_code 22 = .ok (.getfield 66, 3) := by decide +kernel
theorem d_p15m36_25 : decode prog_15_method_36_code 25 = .ok (.iload_n 2, 1) := by decide +kernel
theorem d_p15m36_26 : decode prog_15_method_36_code 26 = .ok (.iaload, 1) := by decide +kernel
theorem d_p15m36_27 : decode prog_15_method_36_code 27 = .ok (.if_icmp .ge 7, 3) := by decide +kernel
theorem d_p15m36_30 : decode prog_15_method_36_code 30 = .ok (.iconst 1, 1) := by decide +kernel
theorem d_p15m36_31 : decode prog_15_method_36_code 31 = .ok (.goto 4, 3) := by decide +kernel
theorem d_p15m36_34 : decode prog_15_method_36_code 34 = .ok (.iconst 0, 1) := by decide +kernel
theorem d_p15m36_35 : decode prog_15_method_36_code 35 = .ok (.ireturn, 1) := by decide +kernel
theorem d_p15m36_36 : decode prog_15_method_36_code 36 = .ok (.aload_n 0, 1) := by decide +kernel
theorem d_p15m36_37 : decode prog_15_method_36_code 37 = .ok (.getfield 72, 3) := by decide +kernel
theorem d_p15m36_40 : decode prog_15_method_36_code 40 = .ok (.iload_n 1, 1) := by decide +kernel
theorem d_p15m36_41 : decode prog_15_method_36_code 41 = .ok (.iaload, 1) := by decide +kernel
theorem d_p15m36_42 : decode prog_15_method_36_code 42 = .ok (.aload_n 0, 1) := by decide +kernel
theorem d_p15m36_43 : decode prog_15_method_36_code 43 = .ok (.getfield 72, 3) := by decide +kernel
theorem d_p15m36_46 : decode prog_15_method_36_code 46 = .ok (.iload_n 2, 1) := by decide +kernel
theorem d_p15m36_47 : decode prog_15_method_36_code 47 = .ok (.iaload, 1) := by decide +kernel
theorem d_p15m36_48 : decode prog_15_method_36_code 48 = .ok (.if_icmp .eq 24, 3) := by decide +kernel
theorem d_p15m36_51 : decode prog_15_method_36_code 51 = .ok (.aload_n 0, 1) := by decide +kernel
theorem d_p15m36_52 : decode prog_15_method_36_code 52 = .ok (.getfield 72, 3) := by decide +kernel
theorem d_p15m36_55 : decode prog_15_method_36_code 55 = .ok (.iload_n 1, 1) := by decide +kernel
theorem d_p15m36_56 : decode prog_15_method_36_code 56 = .ok (.iaload, 1) := by decide +kernel
theorem d_p15m36_57 : decode prog_15_method_36_code 57 = .ok (.aload_n 0, 1) := by decide +kernel
theorem d_p15m36_58 : decode prog_15_method_36_code 58 = .ok (.getfield 72, 3) := by decide +kernel
theorem d_p15m36_61 : decode prog_15_method_36_code 61 = .ok (.iload_n 2, 1) := by decide +kernel
theorem d_p15m36_62 : decode prog_15_method_36_code 62 = .ok (.iaload, 1) := by decide +kernel
theorem d_p15m36_63 : decode prog_15_method_36_code 63 = .ok (.if_icmp .le 7, 3) := by decide +kernel
theorem d_p15m36_66 : decode prog_15_method_36_code 66 = .ok (.iconst 1, 1) := by decide +kernel
theorem d_p15m36_67 : decode prog_15_method_36_code 67 = .ok (.goto 4, 3) := by decide +kernel
theorem d_p15m36_70 : decode prog_15_method_36_code 70 = .ok (.iconst 0, 1) := by decide +kernel
theorem d_p15m36_71 : decode prog_15_method_36_code 71 = .ok (.ireturn, 1) := by decide +kernel
theorem d_p15m36_72 : decode prog_15_method_36_code 72 = .ok (.aload_n 0, 1) := by decide +kernel
theorem d_p15m36_73 : decode prog_15_method_36_code 73 = .ok (.getfield 75, 3) := by decide +kernel
theorem d_p15m36_76 : decode prog_15_method_36_code 76 = .ok (.iload_n 1, 1) := by decide +kernel
theorem d_p15m36_77 : decode prog_15_method_36_code 77 = .ok (.iaload, 1) := by decide +kernel
theorem d_p15m36_78 : decode prog_15_method_36_code 78 = .ok (.aload_n 0, 1) := by decide +kernel
theorem d_p15m36_79 : decode prog_15_method_36_code 79 = .ok (.getfield 75, 3) := by decide +kernel
theorem d_p15m36_82 : decode prog_15_method_36_code 82 = .ok (.iload_n 2, 1) := by decide +kernel
theorem d_p15m36_83 : decode prog_15_method_36_code 83 = .ok (.iaload, 1) := by decide +kernel
theorem d_p15m36_84 : decode prog_15_method_36_code 84 = .ok (.if_icmp .lt 7, 3) := by decide +kernel
theorem d_p15m36_87 : decode prog_15_method_36_code 87 = .ok (.iconst 1, 1) := by decide +kernel
theorem d_p15m36_88 : decode prog_15_method_36_code 88 = .ok (.goto 4, 3) := by decide +kernel
theorem d_p15m36_91 : decode prog_15_method_36_code 91 = .ok (.iconst 0, 1) := by decide +kernel
theorem d_p15m36_92 : decode prog_15_method_36_code 92 = .ok (.ireturn, 1) := by decide +kernel
abbrev y_Mod_isBetter : MethodName := ⟨"PolicyDeskModel", "isBetter", "(II)Z"⟩
theorem ok_Mod_isBetter : pd_ok y_Mod_isBetter prog_15_method_36_code 3 (some .boolean) 2 := ⟨mT_1428, mT_21, by decide, by decide +kernel⟩
abbrev rm_Mod_isBetter : Room := { frames := 0, cells := 0, slots := 0, locals := 0 }
set_option maxHeartbeats 4000000 in
set_option maxRecDepth 100000 in
theorem c_Mod_isBetter (l : Launch) (G : pd_G) (h : pd_H) {y : Nat} {ad : Nat → Nat} {fv : Nat → Nat → Int32} {iv : Nat → Int32} {tl : Int64} {u : Nat} {U : Nat → pd_rr} {r9 s9 : Nat} (hMO : pd_MO G h y ad fv iv tl) (hU : gm_U fv iv u U) (hr9 : r9 < u) (hs9 : s9 < u) : pd_M l y_Mod_isBetter prog_15_method_36_code 3 (some .boolean) rm_Mod_isBetter G h [.ref y, .int (nI r9), .int (nI s9)] pd_vb (fun r h1 => r = decide (gr_rank (U s9).2.1 ≤ gr_rank (U r9).2.1) ∧ h = h1) := by
  refine pd_M.of (by decide) (Nat.le_of_ble_eq_true rfl) ?_
  intro p e s m below meth c X hmn w ls hl
  have hx := X.1
  have hb := X.2.1
  have hl : lv_has ls 3 [(0, .ref y), (1, .int (nI r9)), (2, .int (nI s9))] := hl
  have hz_y := hMO.2.1
  have hy0 : h y = some (20, .inr (10, [.ref (ad 0), .ref (ad 1), .ref (ad 2), .int (iv 3), .int (iv 4), .int (iv 5), .ref (ad 6), .ref (ad 7), .ref (ad 8), .ref (ad 9), .ref (ad 10), .ref (ad 11), .int (iv 12), .ref (ad 13), .ref (ad 14), .ref (ad 15), .ref (ad 16), .ref (ad 17), .ref (ad 18), .ref (ad 19), .int (iv 20), .ref (ad 21), .ref (ad 22), .ref (ad 23), .ref (ad 24), .ref (ad 25), .ref (ad 26), .ref (ad 27), .ref (ad 28), .int (iv 29), .ref (ad 30), .ref (ad 31), .int (iv 32), .int (iv 33), .int (iv 34), .int (iv 35), .long tl, .int (iv 37), .int (iv 38), .int (iv 39), .int (iv 40), .ref (ad 41), .ref (ad 42), .int (iv 43)])) := hMO.1
  have ha22 : h (ad 22) = some (52, .inl (.int, 24, .inl (fv 22))) := (hMO.2.2 22 (by decide)).1
  have ha24 : h (ad 24) = some (54, .inl (.int, 24, .inl (fv 24))) := (hMO.2.2 24 (by decide)).1
  have ha25 : h (ad 25) = some (55, .inl (.int, 24, .inl (fv 25))) := (hMO.2.2 25 (by decide)).1
  obtain ⟨hiv29, hu24, hUu⟩ := id hU
  obtain ⟨ru1, ru2, ru3, ru4, ru5, ru6, ru7, ru8, ru9, ru10, ru11⟩ := hUu r9 hr9
  have hrc := gr_rch_le (U r9).2.1
  have hbh := gr_bh_le (U r9).2.1
  obtain ⟨su1, su2, su3, su4, su5, su6, su7, su8, su9, su10, su11⟩ := hUu s9 hs9
  have hrc2 := gr_rch_le (U s9).2.1
  have hbh2 := gr_bh_le (U s9).2.1
  refine lv_aload_n hx hb d_p15m36_0 rfl (lv_at hl 0 rfl) ?_
  refine pd_get X w hy0 rfl 22 (by decide) mT_1161 rfl rfl d_p15m36_1 ?_
  refine lv_iload_n hx hb d_p15m36_4 rfl (lv_at hl 1 rfl) ?_
  refine pd_iald X w ha22 (by omega) (by omega) d_p15m36_5 ?_
  refine pd_top (v' := .int (nI (3 - gr_rch (U r9).2.1))) (congrArg Value.int ru3) ?_
  refine lv_aload_n hx hb d_p15m36_6 rfl (lv_at hl 0 rfl) ?_
  refine pd_get X w hy0 rfl 22 (by decide) mT_1161 rfl rfl d_p15m36_7 ?_
  refine lv_iload_n hx hb d_p15m36_10 rfl (lv_at hl 2 rfl) ?_
  refine pd_iald X w ha22 (by omega) (by omega) d_p15m36_11 ?_
  refine pd_top (v' := .int (nI (3 - gr_rch (U s9).2.1))) (congrArg Value.int su3) ?_
  refine pd_jeq (tgt := 36) hx hb d_p15m36_12 (by decide) (by omega) (by omega) (fun q1 => ?_) (fun q1 => ?_)
  · -- taken: 36
    refine lv_aload_n hx hb d_p15m36_36 rfl (lv_at hl 0 rfl) ?_
    refine pd_get X w hy0 rfl 24 (by decide) mT_1163 rfl rfl d_p15m36_37 ?_
    refine lv_iload_n hx hb d_p15m36_40 rfl (lv_at hl 1 rfl) ?_
    refine pd_iald X w ha24 (by omega) (by omega) d_p15m36_41 ?_
    refine pd_top (v' := .int (nI ((gr_pn (U r9).2.1).length))) (congrArg Value.int ru4) ?_
    refine lv_aload_n hx hb d_p15m36_42 rfl (lv_at hl 0 rfl) ?_
    refine pd_get X w hy0 rfl 24 (by decide) mT_1163 rfl rfl d_p15m36_43 ?_
    refine lv_iload_n hx hb d_p15m36_46 rfl (lv_at hl 2 rfl) ?_
    refine pd_iald X w ha24 (by omega) (by omega) d_p15m36_47 ?_
    refine pd_top (v' := .int (nI ((gr_pn (U s9).2.1).length))) (congrArg Value.int su4) ?_
    refine pd_jeq (tgt := 72) hx hb d_p15m36_48 (by decide) (by omega) (by omega) (fun q2 => ?_) (fun q2 => ?_)
    · -- taken: 72
      refine lv_aload_n hx hb d_p15m36_72 rfl (lv_at hl 0 rfl) ?_
      refine pd_get X w hy0 rfl 25 (by decide) mT_1164 rfl rfl d_p15m36_73 ?_
      refine lv_iload_n hx hb d_p15m36_76 rfl (lv_at hl 1 rfl) ?_
      refine pd_iald X w ha25 (by omega) (by omega) d_p15m36_77 ?_
      refine pd_top (v' := .int (nI (gr_bh (U r9).2.1))) (congrArg Value.int ru8) ?_
      refine lv_aload_n hx hb d_p15m36_78 rfl (lv_at hl 0 rfl) ?_
      refine pd_get X w hy0 rfl 25 (by decide) mT_1164 rfl rfl d_p15m36_79 ?_
      refine lv_iload_n hx hb d_p15m36_82 rfl (lv_at hl 2 rfl) ?_
      refine pd_iald X w ha25 (by omega) (by omega) d_p15m36_83 ?_
      refine pd_top (v' := .int (nI (gr_bh (U s9).2.1))) (congrArg Value.int su8) ?_
      refine pd_jlt (tgt := 91) hx hb d_p15m36_84 (by decide) (by omega) (by omega) (fun q3 => ?_) (fun q3 => ?_)
      · -- taken: 91
        refine lv_iconst (v := nI 0) hx hb d_p15m36_91 (by decide) ?_
        refine W.eq (g2 := F0 m 92 ls [.int (pd_b false)]) rfl ?_
        exact pd_zret (v := false) X w ⟨(decide_eq_false (by unfold gr_rank; omega)).symm, rfl⟩ (by decide) (by decide) d_p15m36_92
      · -- not taken: 87
        refine lv_iconst (v := nI 1) hx hb d_p15m36_87 (by decide) ?_
        refine lv_goto (tgt := 92) hx hb d_p15m36_88 (by decide) ?_
        refine W.eq (g2 := F0 m 92 ls [.int (pd_b true)]) rfl ?_
        exact pd_zret (v := true) X w ⟨(decide_eq_true (by unfold gr_rank; omega)).symm, rfl⟩ (by decide) (by decide) d_p15m36_92
    · -- not taken: 51
      refine lv_aload_n hx hb d_p15m36_51 rfl (lv_at hl 0 rfl) ?_
      refine pd_get X w hy0 rfl 24 (by decide) mT_1163 rfl rfl d_p15m36_52 ?_
      refine lv_iload_n hx hb d_p15m36_55 rfl (lv_at hl 1 rfl) ?_
      refine pd_iald X w ha24 (by omega) (by omega) d_p15m36_56 ?_
      refine pd_top (v' := .int (nI ((gr_pn (U r9).2.1).length))) (congrArg Value.int ru4) ?_
      refine lv_aload_n hx hb d_p15m36_57 rfl (lv_at hl 0 rfl) ?_
      refine pd_get X w hy0 rfl 24 (by decide) mT_1163 rfl rfl d_p15m36_58 ?_
      refine lv_iload_n hx hb d_p15m36_61 rfl (lv_at hl 2 rfl) ?_
      refine pd_iald X w ha24 (by omega) (by omega) d_p15m36_62 ?_
      refine pd_top (v' := .int (nI ((gr_pn (U s9).2.1).length))) (congrArg Value.int su4) ?_
      refine pd_jle (tgt := 70) hx hb d_p15m36_63 (by decide) (by omega) (by omega) (fun q4 => ?_) (fun q4 => ?_)
      · -- taken: 70
        refine lv_iconst (v := nI 0) hx hb d_p15m36_70 (by decide) ?_
        refine W.eq (g2 := F0 m 71 ls [.int (pd_b false)]) rfl ?_
        exact pd_zret (v := false) X w ⟨(decide_eq_false (by unfold gr_rank; omega)).symm, rfl⟩ (by decide) (by decide) d_p15m36_71
      · -- not taken: 66
        refine lv_iconst (v := nI 1) hx hb d_p15m36_66 (by decide) ?_
        refine lv_goto (tgt := 71) hx hb d_p15m36_67 (by decide) ?_
        refine W.eq (g2 := F0 m 71 ls [.int (pd_b true)]) rfl ?_
        exact pd_zret (v := true) X w ⟨(decide_eq_true (by unfold gr_rank; omega)).symm, rfl⟩ (by decide) (by decide) d_p15m36_71
  · -- not taken: 15
    refine lv_aload_n hx hb d_p15m36_15 rfl (lv_at hl 0 rfl) ?_
    refine pd_get X w hy0 rfl 22 (by decide) mT_1161 rfl rfl d_p15m36_16 ?_
    refine lv_iload_n hx hb d_p15m36_19 rfl (lv_at hl 1 rfl) ?_
    refine pd_iald X w ha22 (by omega) (by omega) d_p15m36_20 ?_
    refine pd_top (v' := .int (nI (3 - gr_rch (U r9).2.1))) (congrArg Value.int ru3) ?_
    refine lv_aload_n hx hb d_p15m36_21 rfl (lv_at hl 0 rfl) ?_
    refine pd_get X w hy0 rfl 22 (by decide) mT_1161 rfl rfl d_p15m36_22 ?_
    refine lv_iload_n hx hb d_p15m36_25 rfl (lv_at hl 2 rfl) ?_
    refine pd_iald X w ha22 (by omega) (by omega) d_p15m36_26 ?_
    refine pd_top (v' := .int (nI (3 - gr_rch (U s9).2.1))) (congrArg Value.int su3) ?_
    refine pd_jge (tgt := 34) hx hb d_p15m36_27 (by decide) (by omega) (by omega) (fun q5 => ?_) (fun q5 => ?_)
    · -- taken: 34
      refine lv_iconst (v := nI 0) hx hb d_p15m36_34 (by decide) ?_
      refine W.eq (g2 := F0 m 35 ls [.int (pd_b false)]) rfl ?_
      exact pd_zret (v := false) X w ⟨(decide_eq_false (by unfold gr_rank; omega)).symm, rfl⟩ (by decide) (by decide) d_p15m36_35
    · -- not taken: 30
      refine lv_iconst (v := nI 1) hx hb d_p15m36_30 (by decide) ?_
      refine lv_goto (tgt := 35) hx hb d_p15m36_31 (by decide) ?_
      refine W.eq (g2 := F0 m 35 ls [.int (pd_b true)]) rfl ?_
      exact pd_zret (v := true) X w ⟨(decide_eq_true (by unfold gr_rank; omega)).symm, rfl⟩ (by decide) (by decide) d_p15m36_35
