/-! THE LAW'S LINE: heating -/
theorem i32_mul {x y : Int32} (h1 : -2147483648 ≤ x.toInt * y.toInt) (h2 : x.toInt * y.toInt < 2147483648) : (x * y).toInt = x.toInt * y.toInt := by
  rw [Int32.toInt_mul]
  exact Int.bmod_eq_of_le (by omega) (by omega)
theorem i32_add {x y : Int32} (h1 : -2147483648 ≤ x.toInt + y.toInt) (h2 : x.toInt + y.toInt < 2147483648) : (x + y).toInt = x.toInt + y.toInt := by
  rw [Int32.toInt_add]
  exact Int.bmod_eq_of_le (by omega) (by omega)
theorem i32_sub {x y : Int32} (h1 : -2147483648 ≤ x.toInt - y.toInt) (h2 : x.toInt - y.toInt < 2147483648) : (x - y).toInt = x.toInt - y.toInt := by
  rw [Int32.toInt_sub]
  exact Int.bmod_eq_of_le (by omega) (by omega)
theorem i32_div {x y : Int32} (hx : 0 ≤ x.toInt) (hy : 1 ≤ y.toInt) : (x / y).toInt = x.toInt / y.toInt ∧ 0 ≤ x.toInt / y.toInt ∧ x.toInt / y.toInt ≤ x.toInt := by
  have h1 : 0 ≤ x.toInt / y.toInt := Int.ediv_nonneg hx (by omega)
  have h2 : x.toInt / y.toInt ≤ x.toInt := Int.ediv_le_self _ hx
  have := x.toInt_lt
  refine ⟨?_, h1, h2⟩
  rw [Int32.toInt_div, Int.tdiv_eq_ediv_of_nonneg hx]
  exact Int.bmod_eq_of_le (by omega) (by omega)
theorem i32_bd {lo hi : Int32} {x : Int32} (h : lo ≤ x ∧ x ≤ hi) : lo.toInt ≤ x.toInt ∧ x.toInt ≤ hi.toInt := by
  rw [i32_le, i32_le] at h
  exact h
theorem lim_bd {x lo hi : Int32} (h : lo ≤ hi) : lo ≤ lim x lo hi ∧ lim x lo hi ≤ hi := by
  unfold lim
  by_cases h1 : lo ≤ x
  · rw [if_pos h1]
    by_cases h2 : x ≤ hi
    · rw [if_pos h2]; exact ⟨h1, h2⟩
    · rw [if_neg h2]; exact ⟨h, Int32.le_refl hi⟩
  · rw [if_neg h1]; exact ⟨Int32.le_refl lo, h⟩
theorem mx20 {x : Int32} : (if x < 20 then (20 : Int32) else x) = (if 20 < x then x else 20) := by
  by_cases h1 : x < 20
  · rw [if_pos h1, if_neg]
    rw [i32_lt] at h1 ⊢
    omega
  · rw [if_neg h1]
    by_cases h2 : 20 < x
    · rw [if_pos h2]
    · rw [if_neg h2]
      rw [i32_lt] at h1 h2
      exact Int32.toInt_inj.mp (by omega)
theorem mn_sw {x y : Int32} : (if y < x then y else x) = (if x < y then x else y) := by
  by_cases h1 : y < x
  · rw [if_pos h1, if_neg]
    rw [i32_lt] at h1 ⊢
    omega
  · rw [if_neg h1]
    by_cases h2 : x < y
    · rw [if_pos h2]
    · rw [if_neg h2]
      rw [i32_lt] at h1 h2
      exact Int32.toInt_inj.mp (by omega)
/-- the numbers of one heating -/
theorem heat_num {a2 a5 sh th cap : Int32} (h2 : 20 ≤ a2 ∧ a2 ≤ 900) (h5 : 20 ≤ a5 ∧ a5 ≤ 900) (hlt : a5 < a2) (hs : 0 ≤ sh ∧ sh ≤ 1000) (ht : 2 ≤ th ∧ th ≤ 19) (hc : 1 ≤ cap ∧ cap ≤ 999) :
    (20 ≤ a5 + (a2 - a5) * sh / 1000 ∧ a5 + (a2 - a5) * sh / 1000 ≤ 900) ∧ (20 ≤ (if 20 < a2 - (a2 - a5) * sh / 1000 * th / cap then a2 - (a2 - a5) * sh / 1000 * th / cap else 20) ∧ (if 20 < a2 - (a2 - a5) * sh / 1000 * th / cap then a2 - (a2 - a5) * sh / 1000 * th / cap else 20) ≤ 900) ∧ 0 < a2 - a5 ∧ bd (a2 - a5) := by
  have b2 := i32_bd h2
  have b5 := i32_bd h5
  have bs := i32_bd hs
  have bt := i32_bd ht
  have bc := i32_bd hc
  have c20 : (20 : Int32).toInt = 20 := rfl
  have c900 : (900 : Int32).toInt = 900 := rfl
  have c0 : (0 : Int32).toInt = 0 := rfl
  have c1000 : (1000 : Int32).toInt = 1000 := rfl
  have c2 : (2 : Int32).toInt = 2 := rfl
  have c19 : (19 : Int32).toInt = 19 := rfl
  have c1 : (1 : Int32).toInt = 1 := rfl
  have c999 : (999 : Int32).toInt = 999 := rfl
  rw [i32_lt] at hlt
  rw [c20, c900] at b2 b5
  rw [c0, c1000] at bs
  rw [c2, c19] at bt
  rw [c1, c999] at bc
  have g1 : (a2 - a5).toInt = a2.toInt - a5.toInt := i32_sub (by omega) (by omega)
  generalize a2 - a5 = g at g1 ⊢
  have p0 : 0 ≤ g.toInt * sh.toInt := Int.mul_nonneg (by omega) (by omega)
  have p1 : g.toInt * sh.toInt ≤ g.toInt * 1000 := Int.mul_le_mul_of_nonneg_left (by omega) (by omega)
  have m1 : (g * sh).toInt = g.toInt * sh.toInt := i32_mul (by omega) (by omega)
  have r1 := (i32_div (x := g * sh) (y := 1000) (by rw [m1]; exact p0) (by rw [c1000]; omega)).1
  rw [m1, c1000] at r1
  generalize g * sh / 1000 = r at r1 ⊢
  generalize g.toInt * sh.toInt = P at *
  have rr : 0 ≤ r.toInt ∧ r.toInt ≤ g.toInt := by omega
  have q0 : 0 ≤ r.toInt * th.toInt := Int.mul_nonneg (by omega) (by omega)
  have q1 : r.toInt * th.toInt ≤ r.toInt * 19 := Int.mul_le_mul_of_nonneg_left (by omega) (by omega)
  have m2 : (r * th).toInt = r.toInt * th.toInt := i32_mul (by omega) (by omega)
  have d1 := i32_div (x := r * th) (y := cap) (by rw [m2]; exact q0) (by omega)
  rw [m2] at d1
  generalize r * th / cap = w at d1 ⊢
  have s1 : (a5 + r).toInt = a5.toInt + r.toInt := i32_add (by omega) (by omega)
  have s2 : (a2 - w).toInt = a2.toInt - w.toInt := i32_sub (by omega) (by omega)
  refine ⟨⟨?_, ?_⟩, ?_, ?_, ?_, ?_⟩
  · rw [i32_le, s1, c20]; omega
  · rw [i32_le, s1, c900]; omega
  · by_cases e : 20 < a2 - w
    · rw [if_pos e]
      refine ⟨?_, ?_⟩
      · rw [i32_lt] at e
        rw [i32_le]
        omega
      · rw [i32_le, s2, c900]; omega
    · rw [if_neg e]
      exact ⟨by decide, by decide⟩
  · rw [i32_lt, c0]; omega
  · rw [i32_le]
    show (-1000000 : Int) ≤ _
    omega
  · rw [i32_le]
    show _ ≤ (1000000 : Int)
    omega
/-- a line of the law, as a whole -/
def LLn (g : AH) (B : Nat → Prop) (l : Nat) (D : Nat → Nat → Nat) (nz ns : Nat) (q : Nat → Int32) (sa : Nat → Nat → Int32) (tv : Value) (pg : Nat → Int32) (n : Nat) (f : Nat → Int32) (a : Nat → Nat → Int32) (p : Nat → Int32) : Prop :=
  LRc g B l D nz ns q sa tv f a p ∧ (Ap B l D nz ns ∧ ∀ i, Ad l D nz ns i → i < hN g) ∧ TMr g B tv pg n ∧ INV nz ns f a ∧ PLc nz ns f a p ∧ STA nz q sa
theorem Aw.ad {l : Nat} {D : Nat → Nat → Nat} {nz ns i : Nat} (h : Aw l D nz ns i) : Ad l D nz ns i := by
  rcases h with h | h | h | h | h
  · exact Or.inl h
  · exact Or.inr (Or.inl ⟨1, by omega, h⟩)
  · exact Or.inr (Or.inr (Or.inl h))
  · exact Or.inr (Or.inr (Or.inr (Or.inl h)))
  · exact Or.inr (Or.inr (Or.inr (Or.inr h)))
section LSS
variable {g g' : AH} {B W : Nat → Prop} {l : Nat} {D : Nat → Nat → Nat} {nz ns n c : Nat} {q pg stk : Nat → Int32} {sa : Nat → Nat → Int32} {tv : Value} {f f' : Nat → Int32} {a a' : Nat → Nat → Int32} {p p' : Nat → Int32} {z s t : Nat}
theorem LLn.nB (h : LLn g B l D nz ns q sa tv pg n f a p) : ∀ i, B i → ¬ Aw l D nz ns i := fun i hi hw => h.2.1.1.2 i hi hw.ad
theorem LLn.nw (h : LLn g B l D nz ns q sa tv pg n f a p) (hx : Sx (Aw l D nz ns) c g g') (h1 : LRc g' B l D nz ns q sa tv f' a' p') (h2 : INV nz ns f' a') (h3 : PLc nz ns f' a' p') : LLn g' B l D nz ns q sa tv pg n f' a' p' :=
  ⟨h1, ⟨h.2.1.1, fun i hi => Nat.lt_of_lt_of_le (h.2.1.2 i hi) hx.1.1⟩, h.2.2.1.keep hx.1 h.nB, h2, h3, h.2.2.2.2.2⟩
theorem LLn.no (h : LLn g B l D nz ns q sa tv pg n f a p) (hx : Sx noW c g g') : LLn g' B l D nz ns q sa tv pg n f a p :=
  h.nw (c := c) (hx.no (Nat.le_refl _)) (h.1.keep hx.1 (fun _ _ z => z) (fun i hi => ⟨h.2.1.2 i hi, fun z => z⟩)) h.2.2.2.1 h.2.2.2.2.1
theorem PLc.cg (h : PLc nz ns f a p) (h3 : f' 3 = f 3) (ha : a' 3 = a 3) : PLc nz ns f' a' p := by
  unfold PLc
  rw [h3, ha]
  exact h
theorem Aw_h : Aw l D nz ns (D 0 1) := Or.inr (Or.inl rfl)
theorem Aw_l : Aw l D nz ns l := Or.inl rfl
theorem Aw_z (h : z < nz) : Aw l D nz ns (D 1 z) := Or.inr (Or.inr (Or.inl ⟨z, h, rfl⟩))
theorem Aw_s (h : s < ns) : Aw l D nz ns (D 2 s) := Or.inr (Or.inr (Or.inr (Or.inl ⟨s, h, rfl⟩)))
theorem Aw_t (h : t < 20) : Aw l D nz ns (D 3 t) := Or.inr (Or.inr (Or.inr (Or.inr ⟨t, h, rfl⟩)))
theorem INV_a2 {v : Int32} (hI : INV nz ns f a) (h : 20 ≤ v ∧ v ≤ 900) : INV nz ns f (upf a 2 (upd (a 2) z v)) := by
  obtain ⟨i1, i4, i5, i7, i8, i9⟩ := hI
  refine ⟨i1, i4, i5, fun y hy => ⟨(i7 y hy).1, ?_⟩, i8, i9⟩
  by_cases e : y = z
  · subst e
    show 20 ≤ upd (a 2) y _ y ∧ upd (a 2) y _ y ≤ 900
    rw [upd_e]
    exact h
  · show 20 ≤ upd (a 2) z _ y ∧ upd (a 2) z _ y ≤ 900
    rw [upd_n e]
    exact (i7 y hy).2
theorem INV_a5 {v : Int32} (hI : INV nz ns f a) (h : 20 ≤ v ∧ v ≤ 900) : INV nz ns f (upf a 5 (upd (a 5) s v)) := by
  obtain ⟨i1, i4, i5, i7, i8, i9⟩ := hI
  refine ⟨i1, i4, i5, i7, fun y hy => ⟨(i8 y hy).1, ?_, (i8 y hy).2.2⟩, i9⟩
  by_cases e : y = s
  · subst e
    show 20 ≤ upd (a 5) y _ y ∧ upd (a 5) y _ y ≤ 900
    rw [upd_e]
    exact h
  · show 20 ≤ upd (a 5) s _ y ∧ upd (a 5) s _ y ≤ 900
    rw [upd_n e]
    exact (i8 y hy).2.1
theorem hz_one (h : LLn g B l D nz ns q sa tv pg n f a p) (hz : z < nz) :
    ∃ g', Sx (Aw l D nz ns) 0 g g' ∧ LLn g' B l D nz ns q sa tv pg n f (hzStep sa a z) p ∧ ∀ d K l2 l3 l4, Ev (d + 1) 92 2 [some (.ref l), some (.int (nI z)), l2, l3, l4] [] g K = Ev (d + 1) 92 2 [some (.ref l), some (.int (nI (z + 1))), l2, l3, l4] [] g' K := by
  have hL := h.1
  have hI := h.2.2.2.1
  have hS := h.2.2.2.2.2
  have n6 : nz ≤ 6 := hS.1.2
  by_cases hc : a 2 z < a 1 z
  · have e0 : hzStep sa a z = upf a 2 (upd (a 2) z (if a 1 z < a 2 z + sa 2 z then a 1 z else a 2 z + sa 2 z)) := if_pos hc
    rw [e0, ← mn_sw]
    have h1 := hL.whe h.2.1.1 hz (x := if a 2 z + sa 2 z < a 1 z then a 2 z + sa 2 z else a 1 z)
    have s1 : Sx (Aw l D nz ns) 0 g (wA g (D 0 1) (upd (hA g (D 0 1)) z (if a 2 z + sa 2 z < a 1 z then a 2 z + sa 2 z else a 1 z))) := Sx.of (Sm.wA Aw_h) rfl rfl
    have b7 := hI.2.2.2.1 z hz
    have b2 := i32_bd b7.2
    have b1 := i32_bd b7.1
    have bs := i32_bd (hS.2.2 z hz).1
    have c20 : (20 : Int32).toInt = 20 := rfl
    have c900 : (900 : Int32).toInt = 900 := rfl
    have c99 : (99 : Int32).toInt = 99 := rfl
    have c1 : (1 : Int32).toInt = 1 := rfl
    have c100 : (100 : Int32).toInt = 100 := rfl
    rw [c20, c900] at b2
    rw [c100, c900] at b1
    rw [c1, c99] at bs
    have ea : (a 2 z + sa 2 z).toInt = (a 2 z).toInt + (sa 2 z).toInt := i32_add (by omega) (by omega)
    refine ⟨_, s1, h.nw s1 h1 (INV_a2 hI ?_) (h.2.2.2.2.1.cg rfl rfl), fun d K l2 l3 l4 => ?_⟩
    · split
      · rename_i hn
        rw [i32_lt, ea] at hn
        refine ⟨?_, ?_⟩ <;> rw [i32_le, ea]
        · rw [c20]; omega
        · rw [c900]; omega
      · exact ⟨by rw [i32_le, c20]; omega, b7.1.2⟩
    · rw [i92_2]
      simp only [i92_3, i92_4, i92_7, i92_8, i92_11, i92_12, i92_15, i92_16, i92_17, i92_18, i92_21, i92_22, i92_23, i92_24, i92_25, i92_28, i92_29, i92_32, i92_33, i92_34, i92_37, i92_38, i92_39, i92_40, i92_41, i92_42, i92_45, i92_46, i92_47, i92_48, i92_51, i92_52, i92_53, i92_54, i92_55, i92_56, i92_59, i92_60, i92_63, nl_i, nl_r, nl_0, nl_j, nb0, nb1, nbI, orv_s, konN_v, konN_n, konN_e, true_and, and_true, and_self, if_true, if_false, ite_true, ite_false, isR_ref, true_or, or_true, isR_null, rg10, rg11, rg12, rg13, rg14, rg15, rg16, rh13, rh14, rh15, rh16, bI_T, bI_F, bI_Fb, i1z, Bool.false_eq_true, lc_k hL, lc_f0 hL, lc_f1 hL, lc_f2 hL, lc_f4 hL, lc_f5 hL, lc_f6 hL, lc_f7 hL, lc_f8 hL, lc_f9 hL, lc_k0 hL, lc_l0 hL, lc_k1 hL, lc_l1 hL, lc_k2 hL, lc_l2 hL, lc_k3 hL, lc_l3 hL, lc_k4 hL, lc_l4 hL, lz_R hL hz, lz_k hL hz, lz_l hL hz, lz_0 hL hz, lz_1 hL hz, lz_2 hL hz, lz_3 hL hz, lz_4 hL hz, lz_h hL hz, ib04, ib14, ib24, ib34, ib05, ib15, ib25, ib35, ib45, zn_0, zn_1, zn_2, zn_3, zn_4, nI_leI (show nz < 2 ^ 31 by omega) (show z < 2 ^ 31 by omega), show ¬ nz ≤ z by omega, inbT hz (show nz < 2 ^ 31 by omega), nI_clamp (show z < 2 ^ 31 by omega), ← nI_succ, Int32.not_le.mpr hc]
  · have e0 : hzStep sa a z = a := if_neg hc
    rw [e0]
    refine ⟨g, Sx.rf, h, fun d K l2 l3 l4 => ?_⟩
    rw [i92_2]
    simp only [i92_3, i92_4, i92_7, i92_8, i92_11, i92_12, i92_15, i92_16, i92_17, i92_18, i92_21, i92_22, i92_23, i92_24, i92_25, i92_28, i92_29, i92_32, i92_33, i92_34, i92_37, i92_38, i92_39, i92_40, i92_41, i92_42, i92_45, i92_46, i92_47, i92_48, i92_51, i92_52, i92_53, i92_54, i92_55, i92_56, i92_59, i92_60, i92_63, nl_i, nl_r, nl_0, nl_j, nb0, nb1, nbI, orv_s, konN_v, konN_n, konN_e, true_and, and_true, and_self, if_true, if_false, ite_true, ite_false, isR_ref, true_or, or_true, isR_null, rg10, rg11, rg12, rg13, rg14, rg15, rg16, rh13, rh14, rh15, rh16, bI_T, bI_F, bI_Fb, i1z, Bool.false_eq_true, lc_k hL, lc_f0 hL, lc_f1 hL, lc_f2 hL, lc_f4 hL, lc_f5 hL, lc_f6 hL, lc_f7 hL, lc_f8 hL, lc_f9 hL, lc_k0 hL, lc_l0 hL, lc_k1 hL, lc_l1 hL, lc_k2 hL, lc_l2 hL, lc_k3 hL, lc_l3 hL, lc_k4 hL, lc_l4 hL, lz_R hL hz, lz_k hL hz, lz_l hL hz, lz_0 hL hz, lz_1 hL hz, lz_2 hL hz, lz_3 hL hz, lz_4 hL hz, lz_h hL hz, ib04, ib14, ib24, ib34, ib05, ib15, ib25, ib35, ib45, zn_0, zn_1, zn_2, zn_3, zn_4, nI_leI (show nz < 2 ^ 31 by omega) (show z < 2 ^ 31 by omega), show ¬ nz ≤ z by omega, inbT hz (show nz < 2 ^ 31 by omega), nI_clamp (show z < 2 ^ 31 by omega), ← nI_succ, Int32.not_lt.mp hc]
theorem ht_one (h : LLn g B l D nz ns q sa tv pg n f a p) (hz : z < nz) :
    ∃ g', Sx (Aw l D nz ns) 3 g g' ∧ LLn g' B l D nz ns q sa tv pg n f (hsF sa pg n f z (stk, a)).2 p ∧ ∀ l2 l3 l4, ∃ l2' l3' l4', ∀ d K, Ev (d + 5) 92 68 [some (.ref l), some (.int (nI z)), l2, l3, l4] [] g K = Ev (d + 5) 92 68 [some (.ref l), some (.int (nI (z + 1))), l2', l3', l4'] [] g' K := by
  have hL := h.1
  have hI := h.2.2.2.1
  have hS := h.2.2.2.2.2
  have hP := h.2.2.2.2.1
  have n6 : nz ≤ 6 := hS.1.2
  have n20 : ns ≤ 20 := hI.1.2.1
  rcases hI.2.2.1.1 z hz with h0 | ⟨s, hs, h0, h1⟩
  · have hf : hsF sa pg n f z (stk, a) = (stk, a) := if_neg (fun y => by
      have y : 0 ≤ a 3 z := y.1
      rw [h0] at y
      exact absurd y (by decide))
    rw [hf]
    refine ⟨g, Sx.rf, h, fun l2 l3 l4 => ⟨l2, l3, l4, fun d K => ?_⟩⟩
    rw [i92_68]
    simp only [i92_69, i92_70, i92_73, i92_74, i92_77, i92_78, i92_79, i92_82, i92_196, i92_199, nl_i, nl_r, nl_0, nl_j, nb0, nb1, nbI, orv_s, konN_v, konN_n, konN_e, true_and, and_true, and_self, if_true, if_false, ite_true, ite_false, isR_ref, true_or, or_true, isR_null, rg10, rg11, rg12, rg13, rg14, rg15, rg16, rh13, rh14, rh15, rh16, bI_T, bI_F, bI_Fb, i1z, Bool.false_eq_true, lc_k hL, lc_f0 hL, lc_f1 hL, lc_f2 hL, lc_f4 hL, lc_f5 hL, lc_f6 hL, lc_f7 hL, lc_f8 hL, lc_f9 hL, lc_k0 hL, lc_l0 hL, lc_k1 hL, lc_l1 hL, lc_k2 hL, lc_l2 hL, lc_k3 hL, lc_l3 hL, lc_k4 hL, lc_l4 hL, s_atz hL hI hP hz, h0, nI_leI (show nz < 2 ^ 31 by omega) (show z < 2 ^ 31 by omega), show ¬ nz ≤ z by omega, ← nI_succ, show ((-1 : Int32) < 0) = True from eq_true (by decide)]
  · obtain ⟨v1, v2, v3⟩ := hI.2.2.2.2.1 s hs
    obtain ⟨w1, w2⟩ := hI.2.2.2.1 z hz
    obtain ⟨u5, u6⟩ := hS.2.2 z hz
    have zs : zn (a 3 z) = s := by rw [h0]; exact nI_clamp (by omega)
    have hv : 0 ≤ a 3 z ∧ a 3 z < f 2 := by
      rw [h0, hI.1.1]
      exact ⟨nI_pos' (by omega), by rw [nI_lI (by omega) (by omega)]; exact hs⟩
    have sn : (nI s < 0) = False := eq_false (nI_pos (by omega))
    by_cases hlt : a 5 s < a 2 z
    · have hh := fun sh hb => heat_num (sh := sh) w2 v2 hlt hb v1 u6
      have hbd := (hh 0 (by decide)).2.2
      have hz1 : bd (nI z) := ⟨by rw [i32_le, nI_toInt (by omega)]; show (-1000000 : Int) ≤ _; omega, by rw [i32_le, nI_toInt (by omega)]; show _ ≤ (1000000 : Int); omega⟩
      obtain ⟨g1, x1, r1⟩ := s_share (stk := stk) (lc_k hL) (lc_f4 hL) h.2.2.1 v1.1 v1.2 hz1 hbd.2
      have hb := lim_bd (x := vRun pg n (a 4 s) (nI z) (a 2 z - a 5 s) stk 0) (lo := 0) (hi := 1000) (by decide)
      have hf : (hsF sa pg n f z (stk, a)).2 = upf (upf a 5 (upd (a 5) s (a 5 s + (a 2 z - a 5 s) * lim (vRun pg n (a 4 s) (nI z) (a 2 z - a 5 s) stk 0) 0 1000 / 1000))) 2 (upd (a 2) z (if 20 < a 2 z - (a 2 z - a 5 s) * lim (vRun pg n (a 4 s) (nI z) (a 2 z - a 5 s) stk 0) 0 1000 / 1000 * a 4 s / sa 3 z then a 2 z - (a 2 z - a 5 s) * lim (vRun pg n (a 4 s) (nI z) (a 2 z - a 5 s) stk 0) 0 1000 / 1000 * a 4 s / sa 3 z else 20)) := by
        have p3 : 0 < sa 3 z := by
          have := u6.1
          rw [i32_le] at this
          rw [i32_lt]
          have t : (1 : Int) ≤ (sa 3 z).toInt := this
          show (0 : Int) < _
          omega
        unfold hsF
        dsimp only
        rw [if_pos hv, zs, if_pos hbd.1]
        dsimp only
        rw [if_pos p3]
      rw [hf]
      generalize lim (vRun pg n (a 4 s) (nI z) (a 2 z - a 5 s) stk 0) 0 1000 = sh at r1 hb ⊢
      obtain ⟨n1, n2, -, -⟩ := hh sh hb
      have k1000 : ¬ (1000 : Int32) = 0 := by decide
      have kc : ¬ sa 3 z = 0 := fun y => by rw [y] at u6; exact absurd u6.1 (by decide)
      have hs1 := h.no x1
      have L1 := hs1.1
      have L2 := L1.ws1 hs1.2.1.1 hs (x := a 5 s + (a 2 z - a 5 s) * sh / 1000)
      have L3 := L2.whe hs1.2.1.1 hz (x := if 20 < a 2 z - (a 2 z - a 5 s) * sh / 1000 * a 4 s / sa 3 z then a 2 z - (a 2 z - a 5 s) * sh / 1000 * a 4 s / sa 3 z else 20)
      have s3 : Sx (Aw l D nz ns) 3 g _ := (x1.no (V := Aw l D nz ns) (Nat.le_refl 3)).tr ((Sx.of (Sm.wF (k := 1) (v := .int (a 5 s + (a 2 z - a 5 s) * sh / 1000)) (Aw_s hs)) rfl rfl).tr (Sx.of (Sm.wA (f := upd (hA (wF g1 (D 2 s) 1 (.int (a 5 s + (a 2 z - a 5 s) * sh / 1000))) (D 0 1)) z (if 20 < a 2 z - (a 2 z - a 5 s) * sh / 1000 * a 4 s / sa 3 z then a 2 z - (a 2 z - a 5 s) * sh / 1000 * a 4 s / sa 3 z else 20)) Aw_h) rfl rfl))
      refine ⟨_, s3, h.nw s3 L3 (INV_a2 (INV_a5 hI n1) n2) (hP.cg rfl rfl), fun l2 l3 l4 => ⟨some (.ref (D 2 s)), some (.int (a 2 z - a 5 s)), some (.int ((a 2 z - a 5 s) * sh / 1000)), fun d K => ?_⟩⟩
      rw [i92_68]
      simp only [i92_69, i92_70, i92_73, i92_74, i92_77, i92_78, i92_79, i92_82, i92_85, i92_86, i92_89, i92_90, i92_91, i92_92, i92_95, i92_96, i92_97, i92_100, i92_101, i92_104, i92_107, i92_110, i92_111, i92_114, i92_115, i92_116, i92_119, i92_120, i92_121, i92_122, i92_125, i92_126, i92_127, i92_128, i92_131, i92_132, i92_133, i92_134, i92_135, i92_136, i92_139, i92_140, i92_141, i92_144, i92_145, i92_148, i92_149, i92_151, i92_152, i92_153, i92_156, i92_158, i92_159, i92_162, i92_163, i92_166, i92_167, i92_169, i92_170, i92_173, i92_174, i92_175, i92_177, i92_178, i92_181, i92_182, i92_183, i92_186, i92_187, i92_188, i92_189, i92_190, i92_191, i92_192, i92_195, i92_196, i92_199, nl_i, nl_r, nl_0, nl_j, nb0, nb1, nbI, orv_s, konN_v, konN_n, konN_e, true_and, and_true, and_self, if_true, if_false, ite_true, ite_false, isR_ref, true_or, or_true, isR_null, rg10, rg11, rg12, rg13, rg14, rg15, rg16, rh13, rh14, rh15, rh16, bI_T, bI_F, bI_Fb, i1z, Bool.false_eq_true, lc_k hL, lc_f0 hL, lc_f1 hL, lc_f2 hL, lc_f4 hL, lc_f5 hL, lc_f6 hL, lc_f7 hL, lc_f8 hL, lc_f9 hL, lc_k0 hL, lc_l0 hL, lc_k1 hL, lc_l1 hL, lc_k2 hL, lc_l2 hL, lc_k3 hL, lc_l3 hL, lc_k4 hL, lc_l4 hL, lc_k L1, lc_f0 L1, lc_f1 L1, lc_f2 L1, lc_f4 L1, lc_f5 L1, lc_f6 L1, lc_f7 L1, lc_f8 L1, lc_f9 L1, lc_k0 L1, lc_l0 L1, lc_k1 L1, lc_l1 L1, lc_k2 L1, lc_l2 L1, lc_k3 L1, lc_l3 L1, lc_k4 L1, lc_l4 L1, lc_k L2, lc_f0 L2, lc_f1 L2, lc_f2 L2, lc_f4 L2, lc_f5 L2, lc_f6 L2, lc_f7 L2, lc_f8 L2, lc_f9 L2, lc_k0 L2, lc_l0 L2, lc_k1 L2, lc_l1 L2, lc_k2 L2, lc_l2 L2, lc_k3 L2, lc_l3 L2, lc_k4 L2, lc_l4 L2, lz_R hL hz, lz_k hL hz, lz_l hL hz, lz_0 hL hz, lz_1 hL hz, lz_2 hL hz, lz_3 hL hz, lz_4 hL hz, lz_h hL hz, lz_R L1 hz, lz_k L1 hz, lz_l L1 hz, lz_0 L1 hz, lz_1 L1 hz, lz_2 L1 hz, lz_3 L1 hz, lz_4 L1 hz, lz_h L1 hz, lz_R L2 hz, lz_k L2 hz, lz_l L2 hz, lz_0 L2 hz, lz_1 L2 hz, lz_2 L2 hz, lz_3 L2 hz, lz_4 L2 hz, lz_h L2 hz, ls_R hL hs, ls_k hL hs, ls_0 hL hs, ls_1 hL hs, ls_2 hL hs, ls_3 hL hs, ls_R L1 hs, ls_k L1 hs, ls_0 L1 hs, ls_1 L1 hs, ls_2 L1 hs, ls_3 L1 hs, ls_R L2 hs, ls_k L2 hs, ls_0 L2 hs, ls_1 L2 hs, ls_2 L2 hs, ls_3 L2 hs, ib04, ib14, ib24, ib34, ib05, ib15, ib25, ib35, ib45, zn_0, zn_1, zn_2, zn_3, zn_4, s_atz hL hI hP hz, h0, sn, hlt, nI_leI (show nz < 2 ^ 31 by omega) (show z < 2 ^ 31 by omega), show ¬ nz ≤ z by omega, inbT hz (show nz < 2 ^ 31 by omega), inbT hs (show ns < 2 ^ 31 by omega), nI_clamp (show z < 2 ^ 31 by omega), nI_clamp (show s < 2 ^ 31 by omega), ← nI_succ, r1, k1000, kc, not_false_eq_true, upf_ne a _ (show ¬ (4 : Nat) = 5 by decide), upf_ne a _ (show ¬ (2 : Nat) = 5 by decide)]
    · have hf : hsF sa pg n f z (stk, a) = (stk, a) := by
        unfold hsF
        dsimp only
        rw [if_pos hv, zs, if_neg]
        have b2 := i32_bd w2
        have b5 := i32_bd v2
        have c20 : (20 : Int32).toInt = 20 := rfl
        have c900 : (900 : Int32).toInt = 900 := rfl
        rw [c20, c900] at b2 b5
        rw [i32_lt] at hlt ⊢
        rw [i32_sub (by omega) (by omega)]
        show ¬ (0 : Int) < _
        omega
      rw [hf]
      refine ⟨g, Sx.rf, h, fun l2 l3 l4 => ⟨l2, l3, l4, fun d K => ?_⟩⟩
      rw [i92_68]
      simp only [i92_69, i92_70, i92_73, i92_74, i92_77, i92_78, i92_79, i92_82, i92_85, i92_86, i92_89, i92_90, i92_91, i92_92, i92_95, i92_96, i92_97, i92_100, i92_101, i92_104, i92_107, i92_196, i92_199, nl_i, nl_r, nl_0, nl_j, nb0, nb1, nbI, orv_s, konN_v, konN_n, konN_e, true_and, and_true, and_self, if_true, if_false, ite_true, ite_false, isR_ref, true_or, or_true, isR_null, rg10, rg11, rg12, rg13, rg14, rg15, rg16, rh13, rh14, rh15, rh16, bI_T, bI_F, bI_Fb, i1z, Bool.false_eq_true, lc_k hL, lc_f0 hL, lc_f1 hL, lc_f2 hL, lc_f4 hL, lc_f5 hL, lc_f6 hL, lc_f7 hL, lc_f8 hL, lc_f9 hL, lc_k0 hL, lc_l0 hL, lc_k1 hL, lc_l1 hL, lc_k2 hL, lc_l2 hL, lc_k3 hL, lc_l3 hL, lc_k4 hL, lc_l4 hL, lz_R hL hz, lz_k hL hz, lz_l hL hz, lz_0 hL hz, lz_1 hL hz, lz_2 hL hz, lz_3 hL hz, lz_4 hL hz, lz_h hL hz, ls_R hL hs, ls_k hL hs, ls_0 hL hs, ls_1 hL hs, ls_2 hL hs, ls_3 hL hs, s_atz hL hI hP hz, h0, sn, hlt, nI_leI (show nz < 2 ^ 31 by omega) (show z < 2 ^ 31 by omega), show ¬ nz ≤ z by omega, inbT hz (show nz < 2 ^ 31 by omega), inbT hs (show ns < 2 ^ 31 by omega), nI_clamp (show z < 2 ^ 31 by omega), nI_clamp (show s < 2 ^ 31 by omega), ← nI_succ]
end LSS
