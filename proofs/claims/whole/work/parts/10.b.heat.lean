/-! THE LINE: a sheet is heated, zones are heated -/
theorem i1c {x : Int32} : x + 1 - 1 = x := Int32.add_sub_cancel x 1
theorem lim_bd {x lo hi : Int32} (h : lo ≤ hi) : lo ≤ lim x lo hi ∧ lim x lo hi ≤ hi := by
  unfold lim
  by_cases h1 : lo ≤ x
  · rw [if_pos h1]
    by_cases h2 : x ≤ hi
    · rw [if_pos h2]; exact ⟨h1, h2⟩
    · rw [if_neg h2]; exact ⟨h, Int32.le_refl hi⟩
  · rw [if_neg h1]; exact ⟨Int32.le_refl lo, h⟩
theorem mx20 {x : Int32} : (if x < 20 then (20 : Int32) else x) = (if 20 < x then x else 20) := by
  by_cases h1 : x < 20
  · rw [if_pos h1, if_neg]
    rw [i32_lt] at h1 ⊢
    omega
  · rw [if_neg h1]
    by_cases h2 : 20 < x
    · rw [if_pos h2]
    · rw [if_neg h2]
      rw [i32_lt] at h1 h2
      exact Int32.toInt_inj.mp (by omega)
/-- the numbers of one heating -/
theorem heat_num {a2 a5 sh th cap : Int32} (h2 : 20 ≤ a2 ∧ a2 ≤ 900) (h5 : 20 ≤ a5 ∧ a5 ≤ 900) (hlt : a5 < a2) (hs : 0 ≤ sh ∧ sh ≤ 1000) (ht : 2 ≤ th ∧ th ≤ 19) (hc : 1 ≤ cap ∧ cap ≤ 999) :
    (20 ≤ a5 + (a2 - a5) * sh / 1000 ∧ a5 + (a2 - a5) * sh / 1000 ≤ 900) ∧ (20 ≤ (if 20 < a2 - (a2 - a5) * sh / 1000 * th / cap then a2 - (a2 - a5) * sh / 1000 * th / cap else 20) ∧ (if 20 < a2 - (a2 - a5) * sh / 1000 * th / cap then a2 - (a2 - a5) * sh / 1000 * th / cap else 20) ≤ 900) ∧ 0 < a2 - a5 ∧ bd (a2 - a5) := by
  have b2 := i32_bd h2
  have b5 := i32_bd h5
  have bs := i32_bd hs
  have bt := i32_bd ht
  have bc := i32_bd hc
  have c20 : (20 : Int32).toInt = 20 := rfl
  have c900 : (900 : Int32).toInt = 900 := rfl
  have c0 : (0 : Int32).toInt = 0 := rfl
  have c1000 : (1000 : Int32).toInt = 1000 := rfl
  have c2 : (2 : Int32).toInt = 2 := rfl
  have c19 : (19 : Int32).toInt = 19 := rfl
  have c1 : (1 : Int32).toInt = 1 := rfl
  have c999 : (999 : Int32).toInt = 999 := rfl
  rw [i32_lt] at hlt
  rw [c20, c900] at b2 b5
  rw [c0, c1000] at bs
  rw [c2, c19] at bt
  rw [c1, c999] at bc
  have g1 : (a2 - a5).toInt = a2.toInt - a5.toInt := i32_sub (by omega) (by omega)
  generalize a2 - a5 = g at g1 ⊢
  have p0 : 0 ≤ g.toInt * sh.toInt := Int.mul_nonneg (by omega) (by omega)
  have p1 : g.toInt * sh.toInt ≤ g.toInt * 1000 := Int.mul_le_mul_of_nonneg_left (by omega) (by omega)
  have m1 : (g * sh).toInt = g.toInt * sh.toInt := i32_mul (by omega) (by omega)
  have r1 := (i32_div (x := g * sh) (y := 1000) (by rw [m1]; exact p0) (by rw [c1000]; omega)).1
  rw [m1, c1000] at r1
  generalize g * sh / 1000 = r at r1 ⊢
  generalize g.toInt * sh.toInt = P at *
  have rr : 0 ≤ r.toInt ∧ r.toInt ≤ g.toInt := by omega
  have q0 : 0 ≤ r.toInt * th.toInt := Int.mul_nonneg (by omega) (by omega)
  have q1 : r.toInt * th.toInt ≤ r.toInt * 19 := Int.mul_le_mul_of_nonneg_left (by omega) (by omega)
  have m2 : (r * th).toInt = r.toInt * th.toInt := i32_mul (by omega) (by omega)
  have d1 := i32_div (x := r * th) (y := cap) (by rw [m2]; exact q0) (by omega)
  rw [m2] at d1
  generalize r * th / cap = w at d1 ⊢
  have s1 : (a5 + r).toInt = a5.toInt + r.toInt := i32_add (by omega) (by omega)
  have s2 : (a2 - w).toInt = a2.toInt - w.toInt := i32_sub (by omega) (by omega)
  refine ⟨⟨?_, ?_⟩, ?_, ?_, ?_, ?_⟩
  · rw [i32_le, s1, c20]; omega
  · rw [i32_le, s1, c900]; omega
  · by_cases e : 20 < a2 - w
    · rw [if_pos e]
      refine ⟨?_, ?_⟩
      · rw [i32_lt] at e
        rw [i32_le]
        omega
      · rw [i32_le, s2, c900]; omega
    · rw [if_neg e]
      exact ⟨by decide, by decide⟩
  · rw [i32_lt, c0]; omega
  · rw [i32_le]
    show (-1000000 : Int) ≤ _
    omega
  · rw [i32_le]
    show _ ≤ (1000000 : Int)
    omega
section HS2
variable {nz ns n z : Nat} {q pg f D stk : Nat → Int32} {a sa : Nat → Nat → Int32} {c : HP} {J : Nat → Nat → Int64}
theorem heat_step (hI : INV nz ns f a) (hE : EQL nz ns f a D) (hS : STA nz q sa n pg D) (hz : z < nz) :
    ∃ J' D', J' 155 = J 155 ∧ (∀ d K, EvM (d + 3) 125 [.ref 140, .int (nI z)] (dH c J D) K = K (.inl none) (dH c J' D')) ∧ INV nz ns f (hsF sa pg n f z (stk, a)).2 ∧ EQL nz ns f (hsF sa pg n f z (stk, a)).2 D' ∧ STA nz q sa n pg D' := by
  have hI0 := hI
  have hE0 := hE
  have hS0 := hS
  obtain ⟨⟨i1, i2, i3⟩, i4, ⟨i5, i6⟩, i7, i8, i9⟩ := hI0
  obtain ⟨⟨e1, e2, e3, e4⟩, e5, e6, e7⟩ := hE0
  obtain ⟨⟨s1, s2, s3⟩, s4, s5, s6, s7⟩ := hS0
  have hz6 : z < 6 := by omega
  obtain ⟨z1, z2, z3⟩ := e5 z hz
  obtain ⟨w1, w2⟩ := i7 z hz
  obtain ⟨⟨u1, u2, u3, u4⟩, u5, u6⟩ := s5 z hz
  rcases i5 z hz with h0 | ⟨s, hs, h0, h1⟩
  · have hf : hsF sa pg n f z (stk, a) = (stk, a) := if_neg (fun y => by
      have y : 0 ≤ a 3 z := y.1
      rw [h0] at y
      exact absurd y (by decide))
    rw [hf]
    refine ⟨J, D, rfl, fun d K => ?_, hI, hE, hS⟩
    simp only [i125_0, i125_1, i125_4, i125_5, i125_6, i125_7, i125_10, i125_11, i125_12, i125_13, i125_16, i125_17, i125_20, i125_21, i125_22, i125_23, i125_24, i125_25, i125_26, i125_29, i125_32, in125, nl_i, nl_r, nl_0, nl_j, nb0, nb1, nbI, orv_s, konN_v, konN_n, konN_e, true_and, and_true, and_self, if_true, if_false, ite_true, ite_false, isR_ref, true_or, or_true, bI_T, bI_F, bI_Fb, i1z, Bool.false_eq_true, d_k, d_f8, d_k2, d_l2, d_a2, d_wa2, s_zoneAt, s_sheetAt, s_kindAt, nI_1, nI_p2, nI_p3, nI_p4, nI_p5, nI_p6, ib_0, ib_1, ib_2, ib_3, ib_4, ib_5, ib_6, ib_7, ib_8, iz_0, iz_1, iz_2, iz_3, iz_4, iz_5, iz_6, iz_7, iz_8, ze_0, ze_1, ze_2, ze_3, ze_4, ze_5, ze_6, ze_7, ze_8, s_held hz6, z3, i1c, h0]
  · have hs20 : s < 20 := by omega
    have ht := e6 s hs
    obtain ⟨v1, v2, v3⟩ := i8 s hs
    have zs : zn (a 3 z) = s := by rw [h0]; exact zn_nI (by omega)
    have hv : 0 ≤ a 3 z ∧ a 3 z < f 2 := by
      rw [h0, i1]
      exact ⟨nI_pos' (by omega), (nI_ltI (by omega) (by omega)).mpr hs⟩
    have nm1 : ¬ nI s = -1 := fun y => nI_pos (n := s) (by omega) (by rw [y]; decide)
    by_cases hlt : a 5 s < a 2 z
    · have hh := fun sh hb => heat_num (sh := sh) w2 v2 hlt hb v1 u6
      have hbd := (hh 0 (by decide)).2.2
      have hz1 : bd (nI z) := ⟨by rw [i32_le, nI_toInt (by omega)]; show (-1000000 : Int) ≤ _; omega, by rw [i32_le, nI_toInt (by omega)]; show _ ≤ (1000000 : Int); omega⟩
      obtain ⟨sj, hsj⟩ := heat_eq s7 (th := a 4 s) (z := nI z) (gp := a 2 z - a 5 s) v1.1 v1.2 hz1 hbd.2 stk J
      have hsj2 : ∀ d K, EvM (d + 2) 124 [.ref 140, .int (a 4 s), .int (nI z), .int (a 2 z - a 5 s)] (dH c J D) K = K (.inl (some (.int (lim (vRun pg n (a 4 s) (nI z) (a 2 z - a 5 s) stk 0) 0 1000)))) (dH c (upf J 154 sj) D) := fun d K => hsj d c.1 c.2.1 c.2.2.1 c.2.2.2.1 (upf c.2.2.2.2.1 142 D) c.2.2.2.2.2.2 K (upf_same _ _ _)
      have hb := lim_bd (x := vRun pg n (a 4 s) (nI z) (a 2 z - a 5 s) stk 0) (lo := 0) (hi := 1000) (by decide)
      have hf : (hsF sa pg n f z (stk, a)).2 = upf (upf a 5 (upd (a 5) s (a 5 s + (a 2 z - a 5 s) * lim (vRun pg n (a 4 s) (nI z) (a 2 z - a 5 s) stk 0) 0 1000 / 1000))) 2 (upd (a 2) z (if 20 < a 2 z - (a 2 z - a 5 s) * lim (vRun pg n (a 4 s) (nI z) (a 2 z - a 5 s) stk 0) 0 1000 / 1000 * a 4 s / sa 3 z then a 2 z - (a 2 z - a 5 s) * lim (vRun pg n (a 4 s) (nI z) (a 2 z - a 5 s) stk 0) 0 1000 / 1000 * a 4 s / sa 3 z else 20)) := by
        have p3 : 0 < sa 3 z := by
          have := u6.1
          rw [i32_le] at this
          rw [i32_lt]
          have t : (1 : Int) ≤ (sa 3 z).toInt := this
          show (0 : Int) < _
          omega
        unfold hsF
        dsimp only
        rw [if_pos hv, zs, if_pos hbd.1]
        dsimp only
        rw [if_pos p3]
      rw [hf]
      generalize lim (vRun pg n (a 4 s) (nI z) (a 2 z - a 5 s) stk 0) 0 1000 = sh at hsj2 hb ⊢
      obtain ⟨n1, n2, -, -⟩ := hh sh hb
      have k1000 : ¬ (1000 : Int32) = 0 := by decide
      have kc : ¬ sa 3 z = 0 := fun y => by rw [y] at u6; exact absurd u6.1 (by decide)
      have y1 : ∀ w, upd D (51 + 3 * s + 1) w (9 + 7 * z + 5) = D (9 + 7 * z + 5) := fun w => upd_nz (by omega)
      have y2 : ∀ w, upd D (51 + 3 * s + 1) w (9 + 7 * z + 2) = D (9 + 7 * z + 2) := fun w => upd_nz (by omega)
      have y3 : ∀ w, upd D (51 + 3 * s + 1) w (51 + 3 * s) = D (51 + 3 * s) := fun w => upd_nz (by omega)
      refine ⟨upf J 154 sj, upd (upd D (51 + 3 * s + 1) (a 5 s + (a 2 z - a 5 s) * sh / 1000)) (9 + 7 * z + 5) (if 20 < a 2 z - (a 2 z - a 5 s) * sh / 1000 * a 4 s / sa 3 z then a 2 z - (a 2 z - a 5 s) * sh / 1000 * a 4 s / sa 3 z else 20), rfl, fun d K => ?_, ?_, ?_, ?_⟩
      · simp only [in125, i125_0, i125_1, i125_4, i125_5, i125_6, i125_7, i125_10, i125_11, i125_12, i125_13, i125_16, i125_17, i125_20, i125_21, i125_22, i125_23, i125_24, i125_25, i125_26, i125_29, i125_32, i125_33, i125_34, i125_37, i125_38, i125_39, i125_40, i125_41, i125_42, i125_43, i125_46, i125_47, i125_49, i125_51, i125_52, i125_53, i125_54, i125_57, i125_58, i125_60, i125_63, i125_64, i125_67, i125_68, i125_70, i125_71, i125_74, i125_75, i125_78, i125_79, i125_80, i125_81, i125_82, i125_84, i125_85, i125_86, i125_87, i125_90, i125_91, i125_92, i125_93, i125_95, i125_96, i125_99, i125_100, i125_101, i125_102, i125_103, i125_105, i125_106, i125_107, i125_110, i125_111, i125_112, i125_115, i125_116, i125_117, i125_118, i125_119, i125_120, i125_121, i125_124, i125_125, nl_i, nl_r, nl_0, nl_j, nb0, nb1, nbI, orv_s, konN_v, konN_n, konN_e, true_and, and_true, and_self, if_true, if_false, ite_true, ite_false, isR_ref, true_or, or_true, bI_T, bI_F, bI_Fb, i1z, Bool.false_eq_true, d_k, d_f8, d_k2, d_l2, d_a2, d_wa2, s_zoneAt, s_sheetAt, s_kindAt, nI_1, nI_p2, nI_p3, nI_p4, nI_p5, nI_p6, ib_0, ib_1, ib_2, ib_3, ib_4, ib_5, ib_6, ib_7, ib_8, iz_0, iz_1, iz_2, iz_3, iz_4, iz_5, iz_6, iz_7, iz_8, ze_0, ze_1, ze_2, ze_3, ze_4, ze_5, ze_6, ze_7, ze_8, s_held hz6, z3, i1c, nI_pred, h0, nm1, inbT (show 9 + 7 * z + 5 < 1451 by omega) (show 1451 < 2 ^ 31 by omega), zn_nI (show 9 + 7 * z + 5 < 2 ^ 31 by omega), inbT (show 9 + 7 * z + 2 < 1451 by omega) (show 1451 < 2 ^ 31 by omega), zn_nI (show 9 + 7 * z + 2 < 2 ^ 31 by omega), inbT (show 51 + 3 * s + 1 < 1451 by omega) (show 1451 < 2 ^ 31 by omega), zn_nI (show 51 + 3 * s + 1 < 2 ^ 31 by omega), s_warmth hs20, s_mThick hs20, z2, ht.1, ht.2.1, hlt, hsj2, k1000, kc, not_false_eq_true, y1, y2, y3, u2, s_max, mx20]
      · refine ⟨⟨i1, i2, i3⟩, i4, ⟨i5, i6⟩, fun y hy => ?_, fun y hy => ?_, i9⟩
        · refine ⟨(i7 y hy).1, ?_⟩
          by_cases e : y = z
          · subst e
            show 20 ≤ upd (a 2) y _ y ∧ upd (a 2) y _ y ≤ 900
            rw [upd_eq]
            exact n2
          · show 20 ≤ upd (a 2) z _ y ∧ upd (a 2) z _ y ≤ 900
            rw [upd_nz e]
            exact (i7 y hy).2
        · refine ⟨(i8 y hy).1, ?_, (i8 y hy).2.2⟩
          by_cases e : y = s
          · subst e
            show 20 ≤ upd (a 5) y _ y ∧ upd (a 5) y _ y ≤ 900
            rw [upd_eq]
            exact n1
          · show 20 ≤ upd (a 5) s _ y ∧ upd (a 5) s _ y ≤ 900
            rw [upd_nz e]
            exact (i8 y hy).2.1
      · exact EQ_2 s2 i2 hz6 (EQ_5 s2 i2 hs20 hE)
      · exact STA_upd (Or.inr (Or.inr (Or.inr (Or.inr (Or.inl ⟨z, hz6, by omega⟩))))) (STA_upd (Or.inr (Or.inr (Or.inr (Or.inr (Or.inr (Or.inl (by omega))))))) hS)
    · have hf : hsF sa pg n f z (stk, a) = (stk, a) := by
        unfold hsF
        dsimp only
        rw [if_pos hv, zs, if_neg]
        have b2 := i32_bd w2
        have b5 := i32_bd v2
        have c20 : (20 : Int32).toInt = 20 := rfl
        have c900 : (900 : Int32).toInt = 900 := rfl
        rw [c20, c900] at b2 b5
        rw [i32_lt] at hlt ⊢
        rw [i32_sub (by omega) (by omega)]
        show ¬ (0 : Int) < _
        omega
      rw [hf]
      refine ⟨J, D, rfl, fun d K => ?_, hI, hE, hS⟩
      simp only [i125_0, i125_1, i125_4, i125_5, i125_6, i125_7, i125_10, i125_11, i125_12, i125_13, i125_16, i125_17, i125_20, i125_21, i125_22, i125_23, i125_24, i125_25, i125_26, i125_29, i125_32, in125, nl_i, nl_r, nl_0, nl_j, nb0, nb1, nbI, orv_s, konN_v, konN_n, konN_e, true_and, and_true, and_self, if_true, if_false, ite_true, ite_false, isR_ref, true_or, or_true, bI_T, bI_F, bI_Fb, i1z, Bool.false_eq_true, d_k, d_f8, d_k2, d_l2, d_a2, d_wa2, s_zoneAt, s_sheetAt, s_kindAt, nI_1, nI_p2, nI_p3, nI_p4, nI_p5, nI_p6, ib_0, ib_1, ib_2, ib_3, ib_4, ib_5, ib_6, ib_7, ib_8, iz_0, iz_1, iz_2, iz_3, iz_4, iz_5, iz_6, iz_7, iz_8, ze_0, ze_1, ze_2, ze_3, ze_4, ze_5, ze_6, ze_7, ze_8, s_held hz6, z3, i1c, nI_pred, h0, nm1, inbT (show 9 + 7 * z + 5 < 1451 by omega) (show 1451 < 2 ^ 31 by omega), zn_nI (show 9 + 7 * z + 5 < 2 ^ 31 by omega), s_warmth hs20, z2, ht.2.1, hlt]
end HS2
