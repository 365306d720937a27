/-! THE LINE: a tick -/
section TK2
variable {nz ns n : Nat} {q pg : Nat → Int32} {sa : Nat → Nat → Int32} {c : HP}
theorem hz_one {f D : Nat → Int32} {a : Nat → Nat → Int32} {z : Nat} (hI : INV nz ns f a) (hE : EQL nz ns f a D) (hS : STA nz q sa n pg D) (hz : z < nz) :
    ∃ D', (∀ (J : Nat → Nat → Int64) d K, Ev (d + 4) 128 9 [some (.ref 140), some (.int (nI nz)), some (.int (nI z))] [] (dH c J D) K = Ev (d + 4) 128 9 [some (.ref 140), some (.int (nI nz)), some (.int (nI (z + 1)))] [] (dH c J D') K) ∧ INV nz ns f (hzStep sa a z) ∧ EQL nz ns f (hzStep sa a z) D' ∧ STA nz q sa n pg D' := by
  have hI0 := hI
  have hE0 := hE
  have hS0 := hS
  obtain ⟨⟨i1, i2, i3⟩, i4, i5, i7, i8, i9⟩ := hI0
  obtain ⟨⟨e1, e2, e3, e4⟩, e5, e6, e7⟩ := hE0
  obtain ⟨⟨s1, s2, s3⟩, s4, s5, s6, s7⟩ := hS0
  have hz6 : z < 6 := by omega
  obtain ⟨z1, z2, z3⟩ := e5 z hz
  obtain ⟨⟨u1, u2, u3, u4⟩, u5, u6⟩ := s5 z hz
  obtain ⟨w1, w2⟩ := i7 z hz
  unfold hzStep
  by_cases h : a 2 z < a 1 z
  · rw [if_pos h]
    refine ⟨upd D (9 + 7 * z + 5) (if a 1 z < a 2 z + sa 2 z then a 1 z else a 2 z + sa 2 z), fun J d K => ?_, ?_, EQ_2 s2 i2 hz6 hE, STA_upd (Or.inr (Or.inr (Or.inr (Or.inr (Or.inl ⟨z, hz6, by omega⟩))))) hS⟩
    · rw [i128_9]
      simp only [i128_10, i128_11, i128_14, i128_15, i128_18, i128_19, i128_22, i128_23, i128_24, i128_25, i128_26, i128_29, i128_30, i128_33, i128_34, i128_37, i128_38, i128_41, i128_42, i128_45, i128_46, i128_47, i128_48, i128_51, i128_52, i128_55, i128_56, i128_57, i128_60, i128_61, i128_64, i128_65, i128_66, i128_67, i128_68, i128_71, i128_72, i128_75, i128_76, i128_77, i128_78, i128_79, i128_82, i128_83, i128_86, nl_i, nl_r, nl_0, nl_j, nb0, nb1, nbI, orv_s, konN_v, konN_n, konN_e, true_and, and_true, and_self, if_true, if_false, ite_true, ite_false, isR_ref, true_or, or_true, bI_T, bI_F, bI_Fb, i1z, Bool.false_eq_true, d_k, d_f8, d_k2, d_l2, d_a2, d_wa2, s_zoneAt, s_sheetAt, s_kindAt, nI_1, nI_p2, nI_p3, nI_p4, nI_p5, nI_p6, ib_0, ib_1, ib_2, ib_3, ib_4, ib_5, ib_6, ib_7, ib_8, iz_0, iz_1, iz_2, iz_3, iz_4, iz_5, iz_6, iz_7, iz_8, ze_0, ze_1, ze_2, ze_3, ze_4, ze_5, ze_6, ze_7, ze_8, nI_le_zn (show z < 2 ^ 31 by omega), zn_nI (show nz < 2 ^ 31 by omega), hz, not_true, inbT (show 9 + 7 * z < 1451 by omega) (show 1451 < 2 ^ 31 by omega), zn_nI (show 9 + 7 * z < 2 ^ 31 by omega), inbT (show 9 + 7 * z + 1 < 1451 by omega) (show 1451 < 2 ^ 31 by omega), zn_nI (show 9 + 7 * z + 1 < 2 ^ 31 by omega), inbT (show 9 + 7 * z + 5 < 1451 by omega) (show 1451 < 2 ^ 31 by omega), zn_nI (show 9 + 7 * z + 5 < 2 ^ 31 by omega), z1, z2, u1, eq_false (Int32.not_le.mpr h), s_min]
    · refine ⟨⟨i1, i2, i3⟩, i4, i5, fun y hy => ⟨(i7 y hy).1, ?_⟩, i8, i9⟩
      show 20 ≤ upd (a 2) z _ y ∧ upd (a 2) z _ y ≤ 900
      by_cases e : y = z
      · rw [e, upd_eq]
        have b1 := i32_bd w1
        have b2 := i32_bd w2
        have b3 := i32_bd u5
        have c20 : (20 : Int32).toInt = 20 := rfl
        have c900 : (900 : Int32).toInt = 900 := rfl
        have c100 : (100 : Int32).toInt = 100 := rfl
        have c1 : (1 : Int32).toInt = 1 := rfl
        have c99 : (99 : Int32).toInt = 99 := rfl
        rw [c100, c900] at b1
        rw [c20, c900] at b2
        rw [c1, c99] at b3
        have ea : (a 2 z + sa 2 z).toInt = (a 2 z).toInt + (sa 2 z).toInt := i32_add (by omega) (by omega)
        split
        · refine ⟨?_, w1.2⟩
          rw [i32_le, c20]
          omega
        · rename_i hn
          rw [i32_lt, ea] at hn
          refine ⟨?_, ?_⟩
          · rw [i32_le, ea, c20]; omega
          · rw [i32_le, ea, c900]; omega
      · rw [upd_nz e]; exact (i7 y hy).2
  · rw [if_neg h]
    refine ⟨D, fun J d K => ?_, hI, hE, hS⟩
    rw [i128_9]
    simp only [i128_10, i128_11, i128_14, i128_15, i128_18, i128_19, i128_22, i128_23, i128_24, i128_25, i128_26, i128_29, i128_30, i128_33, i128_34, i128_37, i128_38, i128_41, i128_42, i128_45, i128_46, i128_47, i128_48, i128_51, i128_52, i128_55, i128_56, i128_57, i128_60, i128_61, i128_64, i128_65, i128_66, i128_67, i128_68, i128_71, i128_72, i128_75, i128_76, i128_77, i128_78, i128_79, i128_82, i128_83, i128_86, nl_i, nl_r, nl_0, nl_j, nb0, nb1, nbI, orv_s, konN_v, konN_n, konN_e, true_and, and_true, and_self, if_true, if_false, ite_true, ite_false, isR_ref, true_or, or_true, bI_T, bI_F, bI_Fb, i1z, Bool.false_eq_true, d_k, d_f8, d_k2, d_l2, d_a2, d_wa2, s_zoneAt, s_sheetAt, s_kindAt, nI_1, nI_p2, nI_p3, nI_p4, nI_p5, nI_p6, ib_0, ib_1, ib_2, ib_3, ib_4, ib_5, ib_6, ib_7, ib_8, iz_0, iz_1, iz_2, iz_3, iz_4, iz_5, iz_6, iz_7, iz_8, ze_0, ze_1, ze_2, ze_3, ze_4, ze_5, ze_6, ze_7, ze_8, nI_le_zn (show z < 2 ^ 31 by omega), zn_nI (show nz < 2 ^ 31 by omega), hz, not_true, inbT (show 9 + 7 * z < 1451 by omega) (show 1451 < 2 ^ 31 by omega), zn_nI (show 9 + 7 * z < 2 ^ 31 by omega), inbT (show 9 + 7 * z + 1 < 1451 by omega) (show 1451 < 2 ^ 31 by omega), zn_nI (show 9 + 7 * z + 1 < 2 ^ 31 by omega), inbT (show 9 + 7 * z + 5 < 1451 by omega) (show 1451 < 2 ^ 31 by omega), zn_nI (show 9 + 7 * z + 5 < 2 ^ 31 by omega), z1, z2, eq_true (Int32.not_lt.mp h)]
theorem hz_all : ∀ m k (f D : Nat → Int32) (a : Nat → Nat → Int32), k + m = nz → INV nz ns f a → EQL nz ns f a D → STA nz q sa n pg D →
    ∃ D', (∀ (J : Nat → Nat → Int64) d K, Ev (d + 4) 128 9 [some (.ref 140), some (.int (nI nz)), some (.int (nI k))] [] (dH c J D) K = Ev (d + 4) 128 89 [some (.ref 140), some (.int (nI nz)), some (.int (nI nz))] [] (dH c J D') K) ∧ INV nz ns f (itn (fun k a => hzStep sa a k) k m a) ∧ EQL nz ns f (itn (fun k a => hzStep sa a k) k m a) D' ∧ STA nz q sa n pg D'
  | 0, k, f, D, a, hk, hI, hE, hS => by
    obtain rfl : k = nz := by omega
    have h6 := hS.1.2.1
    refine ⟨D, fun J d K => ?_, hI, hE, hS⟩
    rw [i128_9]
    simp only [i128_10, i128_11, nl_i, nl_r, nl_0, nl_j, nb0, nb1, nbI, orv_s, konN_v, konN_n, konN_e, true_and, and_true, and_self, if_true, if_false, ite_true, ite_false, isR_ref, true_or, or_true, bI_T, bI_F, bI_Fb, i1z, Bool.false_eq_true, nI_le_zn (show k < 2 ^ 31 by omega), zn_nI (show k < 2 ^ 31 by omega), Nat.lt_irrefl, not_false_eq_true]
  | m + 1, k, f, D, a, hk, hI, hE, hS => by
    obtain ⟨D1, r1, hI1, hE1, hS1⟩ := hz_one (c := c) (z := k) hI hE hS (by omega)
    obtain ⟨D2, r2, x⟩ := hz_all m (k + 1) f D1 _ (by omega) hI1 hE1 hS1
    exact ⟨D2, fun J d K => (r1 J d K).trans (r2 J d K), x⟩
theorem ht_all : ∀ m k (f D stk : Nat → Int32) (a : Nat → Nat → Int32) (J : Nat → Nat → Int64), k + m = nz → INV nz ns f a → EQL nz ns f a D → STA nz q sa n pg D →
    ∃ J' D', J' 155 = J 155 ∧ (∀ d K, Ev (d + 4) 128 91 [some (.ref 140), some (.int (nI nz)), some (.int (nI k))] [] (dH c J D) K = Ev (d + 4) 128 107 [some (.ref 140), some (.int (nI nz)), some (.int (nI nz))] [] (dH c J' D') K) ∧ INV nz ns f (itn (hsF sa pg n f) k m (stk, a)).2 ∧ EQL nz ns f (itn (hsF sa pg n f) k m (stk, a)).2 D' ∧ STA nz q sa n pg D'
  | 0, k, f, D, stk, a, J, hk, hI, hE, hS => by
    obtain rfl : k = nz := by omega
    have h6 := hS.1.2.1
    refine ⟨J, D, rfl, fun d K => ?_, hI, hE, hS⟩
    rw [i128_91]
    simp only [i128_92, i128_93, nl_i, nl_r, nl_0, nl_j, nb0, nb1, nbI, orv_s, konN_v, konN_n, konN_e, true_and, and_true, and_self, if_true, if_false, ite_true, ite_false, isR_ref, true_or, or_true, bI_T, bI_F, bI_Fb, i1z, Bool.false_eq_true, nI_le_zn (show k < 2 ^ 31 by omega), zn_nI (show k < 2 ^ 31 by omega), Nat.lt_irrefl, not_false_eq_true]
  | m + 1, k, f, D, stk, a, J, hk, hI, hE, hS => by
    have h6 := hS.1.2.1
    obtain ⟨J1, D1, g1, r1, hI1, hE1, hS1⟩ := heat_step (c := c) (J := J) (stk := stk) (z := k) hI hE hS (by omega)
    obtain ⟨J2, D2, g2, r2, x⟩ := ht_all m (k + 1) f D1 (hsF sa pg n f k (stk, a)).1 (hsF sa pg n f k (stk, a)).2 J1 (by omega) hI1 hE1 hS1
    refine ⟨J2, D2, g2.trans g1, fun d K => ?_, x⟩
    rw [← r2, i128_91]
    simp only [i128_92, i128_93, i128_96, i128_97, i128_98, i128_101, i128_104, nl_i, nl_r, nl_0, nl_j, nb0, nb1, nbI, orv_s, konN_v, konN_n, konN_e, true_and, and_true, and_self, if_true, if_false, ite_true, ite_false, isR_ref, true_or, or_true, bI_T, bI_F, bI_Fb, i1z, Bool.false_eq_true, d_k, d_f8, d_k2, d_l2, d_a2, d_wa2, s_zoneAt, s_sheetAt, s_kindAt, nI_1, nI_p2, nI_p3, nI_p4, nI_p5, nI_p6, ib_0, ib_1, ib_2, ib_3, ib_4, ib_5, ib_6, ib_7, ib_8, iz_0, iz_1, iz_2, iz_3, iz_4, iz_5, iz_6, iz_7, iz_8, ze_0, ze_1, ze_2, ze_3, ze_4, ze_5, ze_6, ze_7, ze_8, nI_le_zn (show k < 2 ^ 31 by omega), zn_nI (show nz < 2 ^ 31 by omega), show k < nz by omega, not_true, r1]
theorem mv_all {J : Nat → Nat → Int64} : ∀ j (f D : Nat → Int32) (a : Nat → Nat → Int32), j ≤ nz → INV nz ns f a → EQL nz ns f a D → STA nz q sa n pg D →
    ∃ D', (∀ d K, ∃ w : Int32, Ev (d + 4) 128 145 [some (.ref 140), some (.int (nI nz)), some (.int (nI j - 1))] [] (dH c J D) K = Ev (d + 4) 128 160 [some (.ref 140), some (.int (nI nz)), some (.int w)] [] (dH c J D') K) ∧ INV nz ns (itd (moveF sa q) j (f, a)).1 (itd (moveF sa q) j (f, a)).2 ∧ EQL nz ns (itd (moveF sa q) j (f, a)).1 (itd (moveF sa q) j (f, a)).2 D' ∧ STA nz q sa n pg D'
  | 0, f, D, a, hj, hI, hE, hS => by
    refine ⟨D, fun d K => ⟨nI 0 - 1, ?_⟩, hI, hE, hS⟩
    rw [i128_145]
    simp only [i128_146, nl_i, nl_r, nl_0, nl_j, nb0, nb1, nbI, orv_s, konN_v, konN_n, konN_e, true_and, and_true, and_self, if_true, if_false, ite_true, ite_false, isR_ref, true_or, or_true, bI_T, bI_F, bI_Fb, i1z, Bool.false_eq_true, show (nI 0 - 1 < 0) = True from eq_true (by decide)]
  | j + 1, f, D, a, hj, hI, hE, hS => by
    have h6 := hS.1.2.1
    obtain ⟨D1, r1, hI1, hE1, hS1⟩ := move_step (c := c) (J := J) (z := j) hI hE hS (by omega)
    obtain ⟨D2, r2, x⟩ := mv_all j (moveF sa q j (f, a)).1 D1 (moveF sa q j (f, a)).2 (by omega) hI1 hE1 hS1
    refine ⟨D2, fun d K => ?_, x⟩
    obtain ⟨w, r3⟩ := r2 d K
    refine ⟨w, ?_⟩
    rw [← r3, nI_pred, i128_145]
    simp only [i128_146, i128_149, i128_150, i128_151, i128_154, i128_157, nl_i, nl_r, nl_0, nl_j, nb0, nb1, nbI, orv_s, konN_v, konN_n, konN_e, true_and, and_true, and_self, if_true, if_false, ite_true, ite_false, isR_ref, true_or, or_true, bI_T, bI_F, bI_Fb, i1z, Bool.false_eq_true, d_k, d_f8, d_k2, d_l2, d_a2, d_wa2, s_zoneAt, s_sheetAt, s_kindAt, nI_1, nI_p2, nI_p3, nI_p4, nI_p5, nI_p6, ib_0, ib_1, ib_2, ib_3, ib_4, ib_5, ib_6, ib_7, ib_8, iz_0, iz_1, iz_2, iz_3, iz_4, iz_5, iz_6, iz_7, iz_8, ze_0, ze_1, ze_2, ze_3, ze_4, ze_5, ze_6, ze_7, ze_8, eq_false (nI_pos (show j < 2 ^ 31 by omega)), r1]
    rw [show nI j + -1 = nI j - 1 from (Int32.sub_eq_add_neg _ _).symm]
theorem H3_fill {s : Nat} {g st : Nat → Int32} (h : H3 nz ns g st) (hns : ns ≤ 20) (hs : s < ns) (hg : g 0 = -1) (h0 : st s = 0) : H3 nz ns (upd g 0 (nI s)) (upd st s 1) := by
  have key : ∀ j, j < nz → ¬ g j = nI s := fun j hj w => by
    rcases h.1 j hj with e | ⟨s', e1, e2, e3⟩
    · rw [e] at w
      exact nI_nm1 (by omega) w.symm
    · rw [w] at e2
      have := (nI_eq (by omega) (by omega)).mp e2
      rw [← this, h0] at e3
      exact absurd e3 (by decide)
  refine ⟨fun j hj => ?_, fun j j' hj hj' hne he => ?_⟩
  · by_cases e : j = 0
    · subst e; exact Or.inr ⟨s, hs, upd_eq, upd_eq⟩
    · rw [upd_nz e]
      rcases h.1 j hj with h1 | ⟨s', h1, h2, h3⟩
      · exact Or.inl h1
      · refine Or.inr ⟨s', h1, h2, ?_⟩
        rw [upd_nz (fun w => by rw [w, h0] at h3; exact absurd h3 (by decide))]
        exact h3
  · by_cases e : j = 0
    · subst e
      rw [upd_eq, upd_nz (fun w => hne w.symm)] at he
      exact absurd he.symm (key j' hj')
    · by_cases e' : j' = 0
      · subst e'
        rw [upd_eq, upd_nz e] at he
        exact absurd he (key j hj)
      · rw [upd_nz e, upd_nz e'] at he
        rw [upd_nz e]
        exact h.2 j j' hj hj' hne he
theorem Q3_ne {s : Nat} {x y v : Int32} {st : Nat → Int32} (h : Q3 ns x y st) (h1 : ¬ st s = 2) : Q3 ns x y (upd st s v) := by
  rcases h with h | ⟨s', a1, a2, a3, a4⟩
  · exact Or.inl h
  · refine Or.inr ⟨s', a1, a2, a3, ?_⟩
    rw [upd_nz (fun w => by rw [w] at a4; exact h1 a4)]
    exact a4
theorem fl_all {J : Nat → Nat → Int64} {f D : Nat → Int32} {a : Nat → Nat → Int32} {x1 : Int32} (h0 : 0 < nz) (hI : INV nz ns f a) (hE : EQL nz ns f a D) (hS : STA nz q sa n pg D) (hh : a 3 0 = -1) : ∀ m k, k + m = ns →
    ∃ D', (∀ d K, ∃ w : Int32, Ev (d + 4) 128 162 [some (.ref 140), some (.int x1), some (.int (nI k))] [] (dH c J D) K = Ev (d + 4) 128 210 [some (.ref 140), some (.int x1), some (.int w)] [] (dH c J D') K) ∧ INV nz ns f (fillF a k m) ∧ EQL nz ns f (fillF a k m) D' ∧ STA nz q sa n pg D'
  | 0, k, hk => by
    have e1 := hE.1.1
    have i2 := hI.1.2.1
    obtain rfl : k = ns := by omega
    refine ⟨D, fun d K => ⟨nI k, ?_⟩, hI, hE, hS⟩
    rw [i128_162]
    simp only [i128_163, i128_164, i128_167, i128_168, i128_169, nl_i, nl_r, nl_0, nl_j, nb0, nb1, nbI, orv_s, konN_v, konN_n, konN_e, true_and, and_true, and_self, if_true, if_false, ite_true, ite_false, isR_ref, true_or, or_true, bI_T, bI_F, bI_Fb, i1z, Bool.false_eq_true, d_k, d_f8, d_k2, d_l2, d_a2, d_wa2, s_zoneAt, s_sheetAt, s_kindAt, nI_1, nI_p2, nI_p3, nI_p4, nI_p5, nI_p6, ib_0, ib_1, ib_2, ib_3, ib_4, ib_5, ib_6, ib_7, ib_8, iz_0, iz_1, iz_2, iz_3, iz_4, iz_5, iz_6, iz_7, iz_8, ze_0, ze_1, ze_2, ze_3, ze_4, ze_5, ze_6, ze_7, ze_8, e1, nI_le_zn (show k < 2 ^ 31 by omega), zn_nI (show k < 2 ^ 31 by omega), Nat.lt_irrefl, not_false_eq_true]
  | m + 1, k, hk => by
    have e1 := hE.1.1
    have i2 := hI.1.2.1
    have s2 := hS.1.2.1
    have z6 := (hE.2.1 0 h0).2.2
    have kn : k < ns := by omega
    have ht := hE.2.2.1 k kn
    have zz : (0 : Int32) = nI 0 := nI_0.symm
    have hld : ∀ {d K D}, EvM (d + 1) 116 [.ref 140, .int 0] (dH c J D) K = K (.inl (some (.int (D (9 + 7 * 0 + 6) - 1)))) (dH c J D) := fun {d K D} => by
      rw [zz]
      exact s_held (by omega)
    have hod : ∀ {d K D v}, EvM (d + 1) 117 [.ref 140, .int 0, .int v] (dH c J D) K = K (.inl none) (dH c J (upd D (9 + 7 * 0 + 6) (v + 1))) := fun {d K D v} => by
      rw [zz]
      exact s_hold (by omega)
    have kw : ¬ k = 20 := by omega
    unfold fillF
    by_cases hw : a 6 k = 0
    · rw [if_pos hw]
      refine ⟨upd (upd D (9 + 7 * 0 + 6) (nI (k + 1))) (51 + 3 * k + 2) 1, fun d K => ⟨nI (k + 1), ?_⟩, ?_, ?_, ?_⟩
      · have g1 : upd (upd D (9 + 7 * 0 + 6) (nI (k + 1))) (51 + 3 * k + 2) 1 1 = nI ns := (upd_nz (by omega)).trans ((upd_nz (by omega)).trans e1)
        have g2 : upd (upd D (9 + 7 * 0 + 6) (nI (k + 1))) (51 + 3 * k + 2) 1 (9 + 7 * 0 + 6) = nI (k + 1) := (upd_nz (by omega)).trans upd_eq
        have nk : ¬ nI k = -1 := nI_nm1 (by omega)
        rw [i128_162]
        simp only [i128_163, i128_164, i128_167, i128_168, i128_169, i128_172, i128_173, i128_174, i128_177, i128_178, i128_181, i128_182, i128_183, i128_186, i128_189, i128_192, i128_193, i128_194, i128_195, i128_198, i128_199, i128_200, i128_201, i128_204, i128_207, nl_i, nl_r, nl_0, nl_j, nb0, nb1, nbI, orv_s, konN_v, konN_n, konN_e, true_and, and_true, and_self, if_true, if_false, ite_true, ite_false, isR_ref, true_or, or_true, bI_T, bI_F, bI_Fb, i1z, Bool.false_eq_true, d_k, d_f8, d_k2, d_l2, d_a2, d_wa2, s_zoneAt, s_sheetAt, s_kindAt, nI_1, nI_p2, nI_p3, nI_p4, nI_p5, nI_p6, ib_0, ib_1, ib_2, ib_3, ib_4, ib_5, ib_6, ib_7, ib_8, iz_0, iz_1, iz_2, iz_3, iz_4, iz_5, iz_6, iz_7, iz_8, ze_0, ze_1, ze_2, ze_3, ze_4, ze_5, ze_6, ze_7, ze_8, e1, nI_le_zn (show k < 2 ^ 31 by omega), zn_nI (show ns < 2 ^ 31 by omega), kn, not_true, hld, z6, i1c, hh, s_stateOf (show k < 20 by omega), ht.2.2, hw, hod, s_become (show k < 20 by omega)]
        rw [i128_162]
        by_cases hk1 : k + 1 < ns
        · simp only [i128_163, i128_164, i128_167, i128_168, i128_169, i128_172, i128_173, i128_174, i128_177, i128_178, nl_i, nl_r, nl_0, nl_j, nb0, nb1, nbI, orv_s, konN_v, konN_n, konN_e, true_and, and_true, and_self, if_true, if_false, ite_true, ite_false, isR_ref, true_or, or_true, bI_T, bI_F, bI_Fb, i1z, Bool.false_eq_true, d_k, d_f8, d_k2, d_l2, d_a2, d_wa2, s_zoneAt, s_sheetAt, s_kindAt, nI_1, nI_p2, nI_p3, nI_p4, nI_p5, nI_p6, ib_0, ib_1, ib_2, ib_3, ib_4, ib_5, ib_6, ib_7, ib_8, iz_0, iz_1, iz_2, iz_3, iz_4, iz_5, iz_6, iz_7, iz_8, ze_0, ze_1, ze_2, ze_3, ze_4, ze_5, ze_6, ze_7, ze_8, g1, nI_le_zn (show k + 1 < 2 ^ 31 by omega), zn_nI (show ns < 2 ^ 31 by omega), hk1, not_true, hld, g2, nI_pred, nk]
        · simp only [i128_163, i128_164, i128_167, i128_168, i128_169, i128_172, i128_173, i128_174, i128_177, i128_178, nl_i, nl_r, nl_0, nl_j, nb0, nb1, nbI, orv_s, konN_v, konN_n, konN_e, true_and, and_true, and_self, if_true, if_false, ite_true, ite_false, isR_ref, true_or, or_true, bI_T, bI_F, bI_Fb, i1z, Bool.false_eq_true, d_k, d_f8, d_k2, d_l2, d_a2, d_wa2, s_zoneAt, s_sheetAt, s_kindAt, nI_1, nI_p2, nI_p3, nI_p4, nI_p5, nI_p6, ib_0, ib_1, ib_2, ib_3, ib_4, ib_5, ib_6, ib_7, ib_8, iz_0, iz_1, iz_2, iz_3, iz_4, iz_5, iz_6, iz_7, iz_8, ze_0, ze_1, ze_2, ze_3, ze_4, ze_5, ze_6, ze_7, ze_8, g1, nI_le_zn (show k + 1 < 2 ^ 31 by omega), zn_nI (show ns < 2 ^ 31 by omega), hk1, not_false_eq_true]
      · exact INV_st (s := k) (v := 1) hI rfl (Q3_ne hI.2.1 (by rw [hw]; decide)) (H3_fill hI.2.2.1 i2 kn hh hw) (fun i g1 g2 => by rw [upf_ne _ _ g1, upf_ne _ _ g2]) (Or.inl rfl) (by decide)
      · have g1 := EQ_3 (x := 0) (v := nI k) (w := nI (k + 1)) s2 i2 (by omega) (nI_succ k) hE
        have g2 := EQ_6 (x := k) (v := 1) s2 i2 (by omega) g1
        have ec : upf (upf a 3 (upd (a 3) 0 (nI k))) 6 (upd (a 6) k 1) = upf (upf a 6 (upd (a 6) k 1)) 3 (upd (a 3) 0 (nI k)) := by
          funext i
          unfold upf
          by_cases x3 : i = 3
          · subst x3; rfl
          · rw [if_neg x3, if_neg x3]
        rw [← ec]
        exact g2
      · exact STA_upd (Or.inr (Or.inr (Or.inr (Or.inr (Or.inr (Or.inl (by omega))))))) (STA_upd (Or.inr (Or.inr (Or.inr (Or.inr (Or.inl ⟨0, by omega, by omega⟩))))) hS)
    · rw [if_neg hw]
      obtain ⟨D2, r2, x⟩ := fl_all h0 hI hE hS hh m (k + 1) (by omega)
      refine ⟨D2, fun d K => ?_, x⟩
      obtain ⟨w, r3⟩ := r2 d K
      refine ⟨w, ?_⟩
      rw [← r3, i128_162]
      simp only [i128_163, i128_164, i128_167, i128_168, i128_169, i128_172, i128_173, i128_174, i128_177, i128_178, i128_181, i128_182, i128_183, i128_186, i128_189, i128_192, i128_193, i128_194, i128_195, i128_198, i128_199, i128_200, i128_201, i128_204, i128_207, nl_i, nl_r, nl_0, nl_j, nb0, nb1, nbI, orv_s, konN_v, konN_n, konN_e, true_and, and_true, and_self, if_true, if_false, ite_true, ite_false, isR_ref, true_or, or_true, bI_T, bI_F, bI_Fb, i1z, Bool.false_eq_true, d_k, d_f8, d_k2, d_l2, d_a2, d_wa2, s_zoneAt, s_sheetAt, s_kindAt, nI_1, nI_p2, nI_p3, nI_p4, nI_p5, nI_p6, ib_0, ib_1, ib_2, ib_3, ib_4, ib_5, ib_6, ib_7, ib_8, iz_0, iz_1, iz_2, iz_3, iz_4, iz_5, iz_6, iz_7, iz_8, ze_0, ze_1, ze_2, ze_3, ze_4, ze_5, ze_6, ze_7, ze_8, e1, nI_le_zn (show k < 2 ^ 31 by omega), zn_nI (show ns < 2 ^ 31 by omega), kn, not_true, hld, z6, i1c, hh, s_stateOf (show k < 20 by omega), ht.2.2, hw]
theorem fillL_step {J : Nat → Nat → Int64} {f D : Nat → Int32} {a : Nat → Nat → Int32} {x1 : Int32} (h0 : 0 < nz) (hI : INV nz ns f a) (hE : EQL nz ns f a D) (hS : STA nz q sa n pg D) :
    ∃ D', (∀ d K w, Ev (d + 4) 128 160 [some (.ref 140), some (.int x1), some (.int w)] [] (dH c J D) K = K (.inl none) (dH c J D')) ∧ INV nz ns (fillL q (f, a)).1 (fillL q (f, a)).2 ∧ EQL nz ns (fillL q (f, a)).1 (fillL q (f, a)).2 D' ∧ STA nz q sa n pg D' := by
  have i1 := hI.1.1
  have i2 := hI.1.2.1
  have s1 := hS.1.1
  have s2 := hS.1.2.1
  have e1 := hE.1.1
  have e2 := hE.1.2.1
  have z6 := (hE.2.1 0 h0).2.2
  have q0 : 0 < q 0 := by
    rw [s1, i32_lt, nI_toInt (by omega)]
    show (0 : Int) < _
    omega
  have zf : zn (f 2) = ns := by rw [i1]; exact zn_nI (by omega)
  have tail : ∀ D', INV nz ns f D' → True := fun _ _ => trivial
  have fin : ∀ (a' : Nat → Nat → Int32) (D' : Nat → Int32), INV nz ns f a' → EQL nz ns f a' D' → STA nz q sa n pg D' → (∀ d K l2, Ev (d + 4) 128 210 [some (.ref 140), some (.int x1), l2] [] (dH c J D') K = K (.inl none) (dH c J (upd D' 2 (f 1 + 1)))) ∧ INV nz ns (upf f 1 (f 1 + 1)) a' ∧ EQL nz ns (upf f 1 (f 1 + 1)) a' (upd D' 2 (f 1 + 1)) ∧ STA nz q sa n pg (upd D' 2 (f 1 + 1)) := fun a' D' g1 g2 g3 => by
    have d2 := g2.1.2.1
    refine ⟨fun d K l2 => ?_, g1, EQ_2w s2 i2 g2, STA_upd (by omega) g3⟩
    simp only [i128_210, i128_211, i128_214, i128_215, i128_216, i128_217, i128_218, i128_219, i128_220, nl_i, nl_r, nl_0, nl_j, nb0, nb1, nbI, orv_s, konN_v, konN_n, konN_e, true_and, and_true, and_self, if_true, if_false, ite_true, ite_false, isR_ref, true_or, or_true, bI_T, bI_F, bI_Fb, i1z, Bool.false_eq_true, d_k, d_f8, d_k2, d_l2, d_a2, d_wa2, s_zoneAt, s_sheetAt, s_kindAt, nI_1, nI_p2, nI_p3, nI_p4, nI_p5, nI_p6, ib_0, ib_1, ib_2, ib_3, ib_4, ib_5, ib_6, ib_7, ib_8, iz_0, iz_1, iz_2, iz_3, iz_4, iz_5, iz_6, iz_7, iz_8, ze_0, ze_1, ze_2, ze_3, ze_4, ze_5, ze_6, ze_7, ze_8, d2]
  have zz : (0 : Int32) = nI 0 := nI_0.symm
  have hld : ∀ {d K D}, EvM (d + 1) 116 [.ref 140, .int 0] (dH c J D) K = K (.inl (some (.int (D (9 + 7 * 0 + 6) - 1)))) (dH c J D) := fun {d K D} => by
    rw [zz]
    exact s_held (by omega)
  by_cases hh : a 3 0 = -1
  · have hf : fillL q (f, a) = (upf f 1 (f 1 + 1), fillF a 0 ns) := by
      unfold fillL
      dsimp only
      rw [if_pos ⟨q0, hh⟩, zf]
    obtain ⟨D1, r1, x1, x2, x3⟩ := fl_all (J := J) (c := c) (x1 := x1) h0 hI hE hS hh ns 0 (by omega)
    obtain ⟨r2, x4⟩ := fin _ D1 x1 x2 x3
    rw [hf]
    refine ⟨_, fun d K w => ?_, x4⟩
    obtain ⟨w', r3⟩ := r1 d K
    rw [nI_0] at r3
    simp only [i128_160, i128_161, nl_i, nl_r, nl_0, nl_j, nb0, nb1, nbI, orv_s, konN_v, konN_n, konN_e, true_and, and_true, and_self, if_true, if_false, ite_true, ite_false, isR_ref, true_or, or_true, bI_T, bI_F, bI_Fb, i1z, Bool.false_eq_true]
    rw [r3, r2]
  · have hf : fillL q (f, a) = (upf f 1 (f 1 + 1), a) := by
      unfold fillL
      dsimp only
      rw [if_neg (fun w => hh w.2)]
    obtain ⟨r2, x4⟩ := fin a D hI hE hS
    rw [hf]
    refine ⟨_, fun d K w => ?_, x4⟩
    simp only [i128_160, i128_161, nl_i, nl_r, nl_0, nl_j, nb0, nb1, nbI, orv_s, konN_v, konN_n, konN_e, true_and, and_true, and_self, if_true, if_false, ite_true, ite_false, isR_ref, true_or, or_true, bI_T, bI_F, bI_Fb, i1z, Bool.false_eq_true]
    rw [i128_162]
    by_cases hns : ns = 0
    · subst hns
      have e1' : D 1 = 0 := e1.trans nI_0
      simp only [i128_163, i128_164, i128_167, i128_168, i128_169, nl_i, nl_r, nl_0, nl_j, nb0, nb1, nbI, orv_s, konN_v, konN_n, konN_e, true_and, and_true, and_self, if_true, if_false, ite_true, ite_false, isR_ref, true_or, or_true, bI_T, bI_F, bI_Fb, i1z, Bool.false_eq_true, d_k, d_f8, d_k2, d_l2, d_a2, d_wa2, s_zoneAt, s_sheetAt, s_kindAt, nI_1, nI_p2, nI_p3, nI_p4, nI_p5, nI_p6, ib_0, ib_1, ib_2, ib_3, ib_4, ib_5, ib_6, ib_7, ib_8, iz_0, iz_1, iz_2, iz_3, iz_4, iz_5, iz_6, iz_7, iz_8, ze_0, ze_1, ze_2, ze_3, ze_4, ze_5, ze_6, ze_7, ze_8, e1', show ((0 : Int32) ≤ 0) = True from eq_true (by decide), r2]
    · have n0 : (nI ns ≤ 0) = False := eq_false (nI_nle (by omega) (by omega))
      simp only [i128_163, i128_164, i128_167, i128_168, i128_169, i128_172, i128_173, i128_174, i128_177, i128_178, nl_i, nl_r, nl_0, nl_j, nb0, nb1, nbI, orv_s, konN_v, konN_n, konN_e, true_and, and_true, and_self, if_true, if_false, ite_true, ite_false, isR_ref, true_or, or_true, bI_T, bI_F, bI_Fb, i1z, Bool.false_eq_true, d_k, d_f8, d_k2, d_l2, d_a2, d_wa2, s_zoneAt, s_sheetAt, s_kindAt, nI_1, nI_p2, nI_p3, nI_p4, nI_p5, nI_p6, ib_0, ib_1, ib_2, ib_3, ib_4, ib_5, ib_6, ib_7, ib_8, iz_0, iz_1, iz_2, iz_3, iz_4, iz_5, iz_6, iz_7, iz_8, ze_0, ze_1, ze_2, ze_3, ze_4, ze_5, ze_6, ze_7, ze_8, e1, n0, hld, z6, i1c, hh, r2]
theorem tick_step {J : Nat → Nat → Int64} {f D stk : Nat → Int32} {a : Nat → Nat → Int32} (h0 : 0 < nz) (hI : INV nz ns f a) (hE : EQL nz ns f a D) (hS : STA nz q sa n pg D) :
    ∃ J' D', J' 155 = J 155 ∧ (∀ d K, EvM (d + 4) 128 [.ref 140] (dH c J D) K = K (.inl none) (dH c J' D')) ∧ INV nz ns (tickL sa q pg n (stk, f, a)).2.1 (tickL sa q pg n (stk, f, a)).2.2 ∧ EQL nz ns (tickL sa q pg n (stk, f, a)).2.1 (tickL sa q pg n (stk, f, a)).2.2 D' ∧ STA nz q sa n pg D' := by
  have s1 := hS.1.1
  have s2 := hS.1.2.1
  have s3 := hS.1.2.2
  have zq : zn (q 0) = nz := by rw [s1]; exact zn_nI (by omega)
  obtain ⟨D1, r1, a1, a2, a3⟩ := hz_all (c := c) nz 0 f D a (by omega) hI hE hS
  obtain ⟨J2, D2, g2, r2, b1, b2, b3⟩ := ht_all (c := c) nz 0 f D1 stk _ J (by omega) a1 a2 a3
  obtain ⟨D3, r3, c1, c2, c3⟩ := quench_step (c := c) (J := J2) b1 b2 b3
  obtain ⟨D4, r4, d1, d2, d3⟩ := mv_all (c := c) (J := J2) nz _ D3 _ (Nat.le_refl _) c1 c2 c3
  obtain ⟨D5, r5, e1, e2, e3⟩ := fillL_step (c := c) (J := J2) (x1 := nI nz) h0 d1 d2 d3
  have et : tickL sa q pg n (stk, f, a) = ((itn (hsF sa pg n f) 0 nz (stk, itn (fun k a => hzStep sa a k) 0 nz a)).1, fillL q ((itd (moveF sa q) nz (quL sa q (f, (itn (hsF sa pg n f) 0 nz (stk, itn (fun k a => hzStep sa a k) 0 nz a)).2))).1, (itd (moveF sa q) nz (quL sa q (f, (itn (hsF sa pg n f) 0 nz (stk, itn (fun k a => hzStep sa a k) 0 nz a)).2))).2)) := by
    unfold tickL hzL
    dsimp only
    rw [zq]
  rw [et]
  refine ⟨J2, D5, g2, fun d K => ?_, e1, e2, e3⟩
  have k1 := fun d K => r1 J d K
  rw [nI_0] at k1
  rw [nI_0] at r2
  have k3 := fun d K => r3 (d + 1) K
  simp only [i128_0, i128_1, i128_4, i128_5, i128_6, i128_7, i128_8, in128, nl_i, nl_r, nl_0, nl_j, nb0, nb1, nbI, orv_s, konN_v, konN_n, konN_e, true_and, and_true, and_self, if_true, if_false, ite_true, ite_false, isR_ref, true_or, or_true, bI_T, bI_F, bI_Fb, i1z, Bool.false_eq_true, d_k, d_f8, d_k2, d_l2, d_a2, d_wa2, s_zoneAt, s_sheetAt, s_kindAt, nI_1, nI_p2, nI_p3, nI_p4, nI_p5, nI_p6, ib_0, ib_1, ib_2, ib_3, ib_4, ib_5, ib_6, ib_7, ib_8, iz_0, iz_1, iz_2, iz_3, iz_4, iz_5, iz_6, iz_7, iz_8, ze_0, ze_1, ze_2, ze_3, ze_4, ze_5, ze_6, ze_7, ze_8, s3, k1, i128_89, i128_90, r2]
  rw [show Ev (d + 4) 128 107 [some (Value.ref 140), some (Value.int (nI nz)), some (Value.int (nI nz))] [] (dH c J2 D2) K = Ev (d + 4) 128 141 [some (Value.ref 140), some (Value.int (nI nz)), some (Value.int (nI nz))] [] (dH c J2 D3) K from r3 (d + 1) K _ _]
  obtain ⟨w, k4⟩ := r4 d K
  simp only [i128_141, i128_142, i128_143, i128_144, nl_i, nl_r, nl_0, nl_j, nb0, nb1, nbI, orv_s, konN_v, konN_n, konN_e, true_and, and_true, and_self, if_true, if_false, ite_true, ite_false, isR_ref, true_or, or_true, bI_T, bI_F, bI_Fb, i1z, Bool.false_eq_true]
  rw [k4, r5]
end TK2
