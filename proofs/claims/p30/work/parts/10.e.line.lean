/-! THE LAW'S LINE: what is read of it -/
def H3 (nz ns : Nat) (g st : Nat → Int32) : Prop := (∀ z, z < nz → g z = -1 ∨ ∃ s, s < ns ∧ g z = nI s ∧ st s = 1) ∧ ∀ z z', z < nz → z' < nz → ¬ z = z' → g z = g z' → g z = -1
def Q3 (ns : Nat) (x y : Int32) (st : Nat → Int32) : Prop := (x = -1 ∧ y = 0) ∨ ∃ s, s < ns ∧ x = nI s ∧ 1 ≤ y ∧ st s = 2
def INV (nz ns : Nat) (f : Nat → Int32) (a : Nat → Nat → Int32) : Prop :=
  (f 2 = nI ns ∧ ns ≤ 20 ∧ (nz = 0 → ns = 0)) ∧ Q3 ns (f 3) (f 4) (a 6) ∧ H3 nz ns (a 3) (a 6) ∧
  (∀ z, z < nz → (100 ≤ a 1 z ∧ a 1 z ≤ 900) ∧ 20 ≤ a 2 z ∧ a 2 z ≤ 900) ∧
  (∀ s, s < ns → (2 ≤ a 4 s ∧ a 4 s ≤ 19) ∧ (20 ≤ a 5 s ∧ a 5 s ≤ 900) ∧ 0 ≤ a 6 s ∧ a 6 s ≤ 5) ∧
  (∀ k, k < 20 → -50 ≤ a 10 k ∧ a 10 k ≤ 50)
/-- what is fixed of a line by its text -/
def STA (nz : Nat) (q : Nat → Int32) (sa : Nat → Nat → Int32) : Prop :=
  (q 0 = nI nz ∧ nz ≤ 6) ∧ (0 < nz → (1 ≤ q 1 ∧ q 1 ≤ 9) ∧ 0 ≤ q 2 ∧ q 2 ≤ 20) ∧
  (∀ z, z < nz → (1 ≤ sa 2 z ∧ sa 2 z ≤ 99) ∧ (1 ≤ sa 3 z ∧ sa 3 z ≤ 999))
/-- the places of the sheets -/
def PLc (nz ns : Nat) (f : Nat → Int32) (a : Nat → Nat → Int32) (p : Nat → Int32) : Prop := (∀ s, s < ns → ∀ z, z < nz → (p s = nI z ↔ a 3 z = nI s)) ∧ ∀ s, s < ns → (p s = -1 ↔ f 3 = nI s)
def atF (p : Nat → Int32) (x : Int32) : Nat → Nat → Int32
  | _, 0 => -1
  | k, m + 1 => if p k = x then nI k else atF p x (k + 1) m
theorem atF_sp {p : Nat → Int32} {x : Int32} : ∀ m k, (∃ s, k ≤ s ∧ s < k + m ∧ p s = x ∧ atF p x k m = nI s) ∨ ((∀ s, k ≤ s → s < k + m → ¬ p s = x) ∧ atF p x k m = -1)
  | 0, k => Or.inr ⟨fun s h1 h2 => by omega, rfl⟩
  | m + 1, k => by
    by_cases h : p k = x
    · exact Or.inl ⟨k, by omega, by omega, h, if_pos h⟩
    · have e : atF p x k (m + 1) = atF p x (k + 1) m := if_neg h
      rcases atF_sp m (k + 1) with ⟨s, h1, h2, h3, h4⟩ | ⟨h1, h2⟩
      · exact Or.inl ⟨s, by omega, by omega, h3, e.trans h4⟩
      · refine Or.inr ⟨fun s h3 h4 => ?_, e.trans h2⟩
        by_cases hs : s = k
        · rw [hs]; exact h
        · exact h1 s (by omega) (by omega)
theorem nI_nm1 {s : Nat} (hs : s < 2 ^ 31) : ¬ nI s = -1 := fun y => nI_pos hs (by rw [y]; decide)
theorem nI_inj {a b : Nat} (ha : a < 2 ^ 31) (hb : b < 2 ^ 31) (h : nI a = nI b) : a = b := by
  have := congrArg Int32.toInt h
  rw [nI_toInt ha, nI_toInt hb] at this
  omega
theorem nI_lI {a b : Nat} (ha : a < 2 ^ 31) (hb : b < 2 ^ 31) : (nI a < nI b) = (a < b) := by
  rw [i32_lt, nI_toInt ha, nI_toInt hb]
  exact propext ⟨fun h => by omega, fun h => by omega⟩
theorem at_zone {nz ns z : Nat} {f p : Nat → Int32} {a : Nat → Nat → Int32} (hI : INV nz ns f a) (hP : PLc nz ns f a p) (hz : z < nz) : atF p (nI z) 0 ns = a 3 z := by
  rcases atF_sp (p := p) (x := nI z) ns 0 with ⟨s, -, h2, h3, h4⟩ | ⟨h1, h2⟩
  · rw [h4, (hP.1 s (by omega) z hz).mp h3]
  · rw [h2]
    rcases hI.2.2.1.1 z hz with h | ⟨s, hs, h3, -⟩
    · exact h.symm
    · exact absurd ((hP.1 s hs z hz).mpr h3) (h1 s (by omega) (by omega))
theorem at_quench {nz ns : Nat} {f p : Nat → Int32} {a : Nat → Nat → Int32} (hI : INV nz ns f a) (hP : PLc nz ns f a p) : atF p (-1) 0 ns = f 3 := by
  rcases atF_sp (p := p) (x := -1) ns 0 with ⟨s, -, h2, h3, h4⟩ | ⟨h1, h2⟩
  · rw [h4, (hP.2 s (by omega)).mp h3]
  · rw [h2]
    rcases hI.2.1 with h | ⟨s, hs, h3, -⟩
    · exact h.1.symm
    · exact absurd ((hP.2 s hs).mpr h3) (h1 s (by omega) (by omega))
section LA
variable {g g' : AH} {B W : Nat → Prop} {l : Nat} {D : Nat → Nat → Nat} {nz ns : Nat} {q : Nat → Int32} {sa : Nat → Nat → Int32} {tv : Value} {f : Nat → Int32} {a : Nat → Nat → Int32} {p : Nat → Int32} {z s t : Nat}
theorem lc_k (h : LRc g B l D nz ns q sa tv f a p) : hk g l = 7 := h.1.1
theorem lc_f0 (h : LRc g B l D nz ns q sa tv f a p) : hF g l 0 = .int (f 1) := h.1.2.1
theorem lc_f1 (h : LRc g B l D nz ns q sa tv f a p) : hF g l 1 = .int (q 1) := h.1.2.2.1
theorem lc_f2 (h : LRc g B l D nz ns q sa tv f a p) : hF g l 2 = .int (q 2) := h.1.2.2.2.1
theorem lc_f4 (h : LRc g B l D nz ns q sa tv f a p) : hF g l 4 = tv := h.1.2.2.2.2.2.1
theorem lc_f5 (h : LRc g B l D nz ns q sa tv f a p) : hF g l 5 = .ref (D 0 0) := h.1.2.2.2.2.2.2.1
theorem lc_f6 (h : LRc g B l D nz ns q sa tv f a p) : hF g l 6 = .ref (D 0 1) := h.1.2.2.2.2.2.2.2.1
theorem lc_f7 (h : LRc g B l D nz ns q sa tv f a p) : hF g l 7 = .ref (D 0 2) := h.1.2.2.2.2.2.2.2.2.1
theorem lc_f8 (h : LRc g B l D nz ns q sa tv f a p) : hF g l 8 = .ref (D 0 3) := h.1.2.2.2.2.2.2.2.2.2.1
theorem lc_f9 (h : LRc g B l D nz ns q sa tv f a p) : hF g l 9 = .ref (D 0 4) := h.1.2.2.2.2.2.2.2.2.2.2
theorem lc_k0 (h : LRc g B l D nz ns q sa tv f a p) : hk g (D 0 0) = 14 := h.2.1.1.1
theorem lc_l0 (h : LRc g B l D nz ns q sa tv f a p) : hl g (D 0 0) = nz := h.2.1.1.2
theorem lc_k1 (h : LRc g B l D nz ns q sa tv f a p) : hk g (D 0 1) = 10 := h.2.1.2.1.1
theorem lc_l1 (h : LRc g B l D nz ns q sa tv f a p) : hl g (D 0 1) = nz := h.2.1.2.1.2
theorem lc_k2 (h : LRc g B l D nz ns q sa tv f a p) : hk g (D 0 2) = 15 := h.2.1.2.2.1.1
theorem lc_l2 (h : LRc g B l D nz ns q sa tv f a p) : hl g (D 0 2) = ns := h.2.1.2.2.1.2
theorem lc_k3 (h : LRc g B l D nz ns q sa tv f a p) : hk g (D 0 3) = 14 := h.2.1.2.2.2.1.1
theorem lc_l3 (h : LRc g B l D nz ns q sa tv f a p) : hl g (D 0 3) = 20 := h.2.1.2.2.2.1.2
theorem lc_k4 (h : LRc g B l D nz ns q sa tv f a p) : hk g (D 0 4) = 14 := h.2.1.2.2.2.2.1
theorem lc_l4 (h : LRc g B l D nz ns q sa tv f a p) : hl g (D 0 4) = 20 := h.2.1.2.2.2.2.2
theorem lz_R (h : LRc g B l D nz ns q sa tv f a p) (hz : z < nz) : hR g (D 0 0) z = some (D 1 z) := (h.2.2.1 z hz).1
theorem lz_k (h : LRc g B l D nz ns q sa tv f a p) (hz : z < nz) : hk g (D 1 z) = 10 := (h.2.2.1 z hz).2.1.1
theorem lz_l (h : LRc g B l D nz ns q sa tv f a p) (hz : z < nz) : hl g (D 1 z) = 5 := (h.2.2.1 z hz).2.1.2
theorem lz_0 (h : LRc g B l D nz ns q sa tv f a p) (hz : z < nz) : hA g (D 1 z) 0 = a 1 z := (h.2.2.1 z hz).2.2.1
theorem lz_1 (h : LRc g B l D nz ns q sa tv f a p) (hz : z < nz) : hA g (D 1 z) 1 = sa 2 z := (h.2.2.1 z hz).2.2.2.1
theorem lz_2 (h : LRc g B l D nz ns q sa tv f a p) (hz : z < nz) : hA g (D 1 z) 2 = sa 3 z := (h.2.2.1 z hz).2.2.2.2.1
theorem lz_3 (h : LRc g B l D nz ns q sa tv f a p) (hz : z < nz) : hA g (D 1 z) 3 = sa 4 z := (h.2.2.1 z hz).2.2.2.2.2.1
theorem lz_4 (h : LRc g B l D nz ns q sa tv f a p) (hz : z < nz) : hA g (D 1 z) 4 = sa 5 z := (h.2.2.1 z hz).2.2.2.2.2.2
theorem lz_h (h : LRc g B l D nz ns q sa tv f a p) (hz : z < nz) : hA g (D 0 1) z = a 2 z := h.2.2.2.1 z hz
theorem ls_R (h : LRc g B l D nz ns q sa tv f a p) (hs : s < ns) : hR g (D 0 2) s = some (D 2 s) := (h.2.2.2.2.1 s hs).1
theorem ls_k (h : LRc g B l D nz ns q sa tv f a p) (hs : s < ns) : hk g (D 2 s) = 20 := (h.2.2.2.2.1 s hs).2.1
theorem ls_0 (h : LRc g B l D nz ns q sa tv f a p) (hs : s < ns) : hF g (D 2 s) 0 = .int (a 4 s) := (h.2.2.2.2.1 s hs).2.2.1
theorem ls_1 (h : LRc g B l D nz ns q sa tv f a p) (hs : s < ns) : hF g (D 2 s) 1 = .int (a 5 s) := (h.2.2.2.2.1 s hs).2.2.2.1
theorem ls_2 (h : LRc g B l D nz ns q sa tv f a p) (hs : s < ns) : hF g (D 2 s) 2 = .int (a 6 s) := (h.2.2.2.2.1 s hs).2.2.2.2.1
theorem ls_3 (h : LRc g B l D nz ns q sa tv f a p) (hs : s < ns) : hF g (D 2 s) 3 = .int (p s) := (h.2.2.2.2.1 s hs).2.2.2.2.2
theorem lw_R (h : LRc g B l D nz ns q sa tv f a p) (ht : t < 20) : hR g (D 0 4) t = some (D 3 t) := (h.2.2.2.2.2.2 t ht).1
theorem lw_k (h : LRc g B l D nz ns q sa tv f a p) (ht : t < 20) : hk g (D 3 t) = 10 := (h.2.2.2.2.2.2 t ht).2.1.1
theorem lw_l (h : LRc g B l D nz ns q sa tv f a p) (ht : t < 20) : hl g (D 3 t) = 4 := (h.2.2.2.2.2.2 t ht).2.1.2
theorem lw_0 (h : LRc g B l D nz ns q sa tv f a p) (ht : t < 20) : hA g (D 3 t) 0 = a 7 t := (h.2.2.2.2.2.2 t ht).2.2.1
theorem lw_1 (h : LRc g B l D nz ns q sa tv f a p) (ht : t < 20) : hA g (D 3 t) 1 = a 8 t := (h.2.2.2.2.2.2 t ht).2.2.2.1
theorem lw_2 (h : LRc g B l D nz ns q sa tv f a p) (ht : t < 20) : hA g (D 3 t) 2 = a 9 t := (h.2.2.2.2.2.2 t ht).2.2.2.2.1
theorem lw_3 (h : LRc g B l D nz ns q sa tv f a p) (ht : t < 20) : hA g (D 3 t) 3 = a 10 t := (h.2.2.2.2.2.2 t ht).2.2.2.2.2
theorem ib04 : inb 0 4 = True := eq_true (by decide)
theorem ib14 : inb 1 4 = True := eq_true (by decide)
theorem ib24 : inb 2 4 = True := eq_true (by decide)
theorem ib34 : inb 3 4 = True := eq_true (by decide)
theorem ib05 : inb 0 5 = True := eq_true (by decide)
theorem ib15 : inb 1 5 = True := eq_true (by decide)
theorem ib25 : inb 2 5 = True := eq_true (by decide)
theorem ib35 : inb 3 5 = True := eq_true (by decide)
theorem ib45 : inb 4 5 = True := eq_true (by decide)
theorem at_loop {d : Nat} {x : Int32} {K : AO → AH → Prop} (h : LRc g B l D nz ns q sa tv f a p) (hn : ns ≤ 20) : ∀ m k, k + m = ns → Ev d 87 2 [some (.ref l), some (.int x), some (.int (nI k))] [] g K = K (.inl (some (.int (atF p x k m)))) g
  | 0, k, hk => by
    rw [i87_2]
    simp only [in87, i87_0, i87_1, i87_3, i87_4, i87_7, i87_8, i87_11, i87_12, i87_15, i87_16, i87_17, i87_20, i87_21, i87_24, i87_25, i87_26, i87_29, i87_32, i87_33, nl_i, nl_r, nl_0, nl_j, nb0, nb1, nbI, orv_s, konN_v, konN_n, konN_e, true_and, and_true, and_self, if_true, if_false, ite_true, ite_false, isR_ref, true_or, or_true, isR_null, rg10, rg11, rg12, rg13, rg14, rg15, rg16, rh13, rh14, rh15, rh16, bI_T, bI_F, bI_Fb, i1z, Bool.false_eq_true, lc_k h, lc_f0 h, lc_f1 h, lc_f2 h, lc_f4 h, lc_f5 h, lc_f6 h, lc_f7 h, lc_f8 h, lc_f9 h, lc_k0 h, lc_l0 h, lc_k1 h, lc_l1 h, lc_k2 h, lc_l2 h, lc_k3 h, lc_l3 h, lc_k4 h, lc_l4 h, nI_leI (show ns < 2 ^ 31 by omega) (show k < 2 ^ 31 by omega), show ns ≤ k by omega, atF]
  | m + 1, k, hk => by
    have ks : k < ns := by omega
    rw [i87_2]
    simp only [in87, i87_0, i87_1, i87_3, i87_4, i87_7, i87_8, i87_11, i87_12, i87_15, i87_16, i87_17, i87_20, i87_21, i87_24, i87_25, i87_26, i87_29, i87_32, i87_33, nl_i, nl_r, nl_0, nl_j, nb0, nb1, nbI, orv_s, konN_v, konN_n, konN_e, true_and, and_true, and_self, if_true, if_false, ite_true, ite_false, isR_ref, true_or, or_true, isR_null, rg10, rg11, rg12, rg13, rg14, rg15, rg16, rh13, rh14, rh15, rh16, bI_T, bI_F, bI_Fb, i1z, Bool.false_eq_true, lc_k h, lc_f0 h, lc_f1 h, lc_f2 h, lc_f4 h, lc_f5 h, lc_f6 h, lc_f7 h, lc_f8 h, lc_f9 h, lc_k0 h, lc_l0 h, lc_k1 h, lc_l1 h, lc_k2 h, lc_l2 h, lc_k3 h, lc_l3 h, lc_k4 h, lc_l4 h, ls_R h ks, ls_k h ks, ls_0 h ks, ls_1 h ks, ls_2 h ks, ls_3 h ks, nI_leI (show ns < 2 ^ 31 by omega) (show k < 2 ^ 31 by omega), show ¬ ns ≤ k by omega, inbT ks (show ns < 2 ^ 31 by omega), nI_clamp (show k < 2 ^ 31 by omega), ← nI_succ, at_loop h hn m (k + 1) (by omega), atF]
    split <;> rfl
theorem s_at {d : Nat} {x : Int32} {K : AO → AH → Prop} (h : LRc g B l D nz ns q sa tv f a p) (hn : ns ≤ 20) : EvM d 87 [.ref l, .int x] g K = K (.inl (some (.int (atF p x 0 ns)))) g := by
  simp only [in87, i87_0, i87_1, i87_3, i87_4, i87_7, i87_8, i87_11, i87_12, i87_15, i87_16, i87_17, i87_20, i87_21, i87_24, i87_25, i87_26, i87_29, i87_32, i87_33, nl_i, nl_r, nl_0, nl_j, nb0, nb1, nbI, orv_s, konN_v, konN_n, konN_e, true_and, and_true, and_self, if_true, if_false, ite_true, ite_false, isR_ref, true_or, or_true, isR_null, rg10, rg11, rg12, rg13, rg14, rg15, rg16, rh13, rh14, rh15, rh16, bI_T, bI_F, bI_Fb, i1z, Bool.false_eq_true]
  rw [← nI_0]
  exact at_loop h hn ns 0 (by omega)
theorem s_atz {d : Nat} {K : AO → AH → Prop} (h : LRc g B l D nz ns q sa tv f a p) (hI : INV nz ns f a) (hP : PLc nz ns f a p) (hz : z < nz) : EvM d 87 [.ref l, .int (nI z)] g K = K (.inl (some (.int (a 3 z)))) g := by
  rw [s_at h hI.1.2.1, at_zone hI hP hz]
theorem s_atq {d : Nat} {K : AO → AH → Prop} (h : LRc g B l D nz ns q sa tv f a p) (hI : INV nz ns f a) (hP : PLc nz ns f a p) : EvM d 87 [.ref l, .int (-1)] g K = K (.inl (some (.int (f 3)))) g := by
  rw [s_at h hI.1.2.1, at_quench hI hP]
theorem count_loop {d : Nat} {x : Int32} {K : AO → AH → Prop} (h : LRc g B l D nz ns q sa tv f a p) (hn : ns ≤ 20) : ∀ m k c l5, k + m = ns → Ev d 93 14 [some (.ref l), some (.int x), some (.int c), some (.ref (D 0 2)), some (.int (nI ns)), some (.int (nI k)), l5] [] g K = K (.inl (some (.int (itn (fun k c => if a 6 k = x then c + 1 else c) k m c)))) g
  | 0, k, c, l5, hk => by
    rw [i93_14]
    simp only [in93, i93_0, i93_1, i93_2, i93_3, i93_6, i93_7, i93_8, i93_9, i93_11, i93_12, i93_16, i93_18, i93_21, i93_22, i93_24, i93_25, i93_27, i93_29, i93_32, i93_33, i93_36, i93_39, i93_42, i93_45, i93_46, nl_i, nl_r, nl_0, nl_j, nb0, nb1, nbI, orv_s, konN_v, konN_n, konN_e, true_and, and_true, and_self, if_true, if_false, ite_true, ite_false, isR_ref, true_or, or_true, isR_null, rg10, rg11, rg12, rg13, rg14, rg15, rg16, rh13, rh14, rh15, rh16, bI_T, bI_F, bI_Fb, i1z, Bool.false_eq_true, nI_leI (show ns < 2 ^ 31 by omega) (show k < 2 ^ 31 by omega), show ns ≤ k by omega, itn]
  | m + 1, k, c, l5, hk => by
    have ks : k < ns := by omega
    have ih := fun c => count_loop (d := d) (x := x) (K := K) h hn m (k + 1) c (some (.ref (D 2 k))) (by omega)
    rw [i93_14]
    simp only [in93, i93_0, i93_1, i93_2, i93_3, i93_6, i93_7, i93_8, i93_9, i93_11, i93_12, i93_16, i93_18, i93_21, i93_22, i93_24, i93_25, i93_27, i93_29, i93_32, i93_33, i93_36, i93_39, i93_42, i93_45, i93_46, nl_i, nl_r, nl_0, nl_j, nb0, nb1, nbI, orv_s, konN_v, konN_n, konN_e, true_and, and_true, and_self, if_true, if_false, ite_true, ite_false, isR_ref, true_or, or_true, isR_null, rg10, rg11, rg12, rg13, rg14, rg15, rg16, rh13, rh14, rh15, rh16, bI_T, bI_F, bI_Fb, i1z, Bool.false_eq_true, lc_k h, lc_f0 h, lc_f1 h, lc_f2 h, lc_f4 h, lc_f5 h, lc_f6 h, lc_f7 h, lc_f8 h, lc_f9 h, lc_k0 h, lc_l0 h, lc_k1 h, lc_l1 h, lc_k2 h, lc_l2 h, lc_k3 h, lc_l3 h, lc_k4 h, lc_l4 h, ls_R h ks, ls_k h ks, ls_0 h ks, ls_1 h ks, ls_2 h ks, ls_3 h ks, nI_leI (show ns < 2 ^ 31 by omega) (show k < 2 ^ 31 by omega), show ¬ ns ≤ k by omega, inbT ks (show ns < 2 ^ 31 by omega), nI_clamp (show k < 2 ^ 31 by omega), ← nI_succ, ih, itn]
    split <;> rfl
theorem s_lcount {d : Nat} {x : Int32} {K : AO → AH → Prop} (h : LRc g B l D nz ns q sa tv f a p) (hn : ns ≤ 20) : EvM d 93 [.ref l, .int x] g K = K (.inl (some (.int (cnt (a 6) x ns)))) g := by
  have key := fun l5 => count_loop (d := d) (x := x) (K := K) h hn ns 0 0 l5 (by omega)
  rw [nI_0] at key
  simp only [in93, i93_0, i93_1, i93_2, i93_3, i93_6, i93_7, i93_8, i93_9, i93_11, i93_12, i93_16, i93_18, i93_21, i93_22, i93_24, i93_25, i93_27, i93_29, i93_32, i93_33, i93_36, i93_39, i93_42, i93_45, i93_46, nl_i, nl_r, nl_0, nl_j, nb0, nb1, nbI, orv_s, konN_v, konN_n, konN_e, true_and, and_true, and_self, if_true, if_false, ite_true, ite_false, isR_ref, true_or, or_true, isR_null, rg10, rg11, rg12, rg13, rg14, rg15, rg16, rh13, rh14, rh15, rh16, bI_T, bI_F, bI_Fb, i1z, Bool.false_eq_true, lc_k h, lc_f0 h, lc_f1 h, lc_f2 h, lc_f4 h, lc_f5 h, lc_f6 h, lc_f7 h, lc_f8 h, lc_f9 h, lc_k0 h, lc_l0 h, lc_k1 h, lc_l1 h, lc_k2 h, lc_l2 h, lc_k3 h, lc_l3 h, lc_k4 h, lc_l4 h, key]
  rfl
end LA
