/-! FACE: run, undo -/
section RV
variable {d : Nat} {h : AH} {hh : AH} {T : Nat → Bool} {U S A : Nat → Nat → Int32} {J : Nat → Nat → Int64} {G : Nat → Nat} {K : AO → AH → Prop} {c : HP} {x y : Int32} {nz ns t n : Nat} {q pg : Nat → Int32} {sa : Nat → Nat → Int32}
theorem rng_of {x : Int32} {n : Nat} (h0 : 0 ≤ x) (hx : x ≤ nI n) (hn : n < 2 ^ 31) : ∃ k, k ≤ n ∧ x = nI k := by
  have e := nI_zn h0
  refine ⟨zn x, ?_, e.symm⟩
  rw [← e] at hx
  exact (nI_leI (a := zn x) (b := n) (by rw [i32_le] at h0; exact (by have := x.toInt_lt; show x.toInt.toNat < 2 ^ 31; omega)) hn).mp hx
theorem i32_le_tr {x y z : Int32} (h1 : x ≤ y) (h2 : y ≤ z) : x ≤ z := by
  rw [i32_le] at *
  omega
theorem o_run (hG : GR h T S A G) : JW (h, T, U, S, A, J, G) 178 159 [.int x] := by
  obtain ⟨t, q, sa, n, pg, nz, ns, hs, hN', hS, hI, hE, m, hm, hC⟩ := hG.2.1
  have n6 := hS.1.2.1
  have d0 := hS.1.2.2
  have q0 := hS.1.1
  have i2 := hI.1.2.1
  have hb := hb28
  have zf : zn (S 28 2) = ns := by rw [hI.1.1]; exact zn_nI (by omega)
  by_cases hx : 1 ≤ x ∧ x ≤ 60
  · obtain ⟨N, hN, rfl⟩ := rng_of (n := 60) (i32_le_tr (show (0 : Int32) ≤ 1 by decide) hx.1) hx.2 (by omega)
    by_cases hz : 0 < q 0
    · have hz0 : 0 < nz := by rw [q0, nI_pz n6] at hz; exact hz
      have hzn : ¬ nz = 0 := by omega
      by_cases hc : m + N ≤ 100000
      · have tm : (nI (m + N) ≤ (100000 : Int32)) = True := eq_true ((nI_leI (a := m + N) (b := 100000) (by omega) (by omega)).mpr hc)
        obtain ⟨nx, kp, ⟨hn, hk⟩, ⟨e1, e2, e3⟩, H⟩ := hG.2.2.2
        have hs2 : SUp h T (Gr G nx 28) t q sa n pg := by rw [gr28 hn]; exact hs
        generalize hR : rnF sa q pg n N (U (t + 2), S 28, fun j => A (28 + j)) = R
        generalize hv : cnt (R.2.2 6) 3 ns - cnt (A (28 + 6)) 3 ns = v
        generalize hU1 : upf U (t + 2) R.1 = U1
        generalize hJ1 : upf J 155 (vp_updL (J 155) 0 v.toInt64) = J1
        have j155 : J1 155 = vp_updL (J 155) 0 v.toInt64 := by rw [← hJ1]; exact upf_same _ _ _
        obtain ⟨A3, r3, a3, r5⟩ := m_rem (U := U1) (J := J1) hn hk e1 e2 e3 H hG R.2.1 R.2.2
        obtain ⟨J2, D', g2, lp, x1, x2, x3, x4⟩ := rr_loop (c := (h, T, U1, Sm (pS (Sr S nx kp) 28 R.2.1) kp, A3, J1, Gr G nx)) (N := N) (p := cnt (A (28 + 6)) 3 ns) hN hz0 N 0 (U (t + 2)) (S 28) (A 142) (fun j => A (28 + j)) J1 m (by omega) hI hE hS hC
        rw [hR] at x1 x2 x4
        have zf2 : zn (R.2.1 2) = ns := by rw [x1.1.1]; exact zn_nI (by omega)
        have lq : ∀ d K, Ev (d + 5) 159 75 [some (.ref 140), some (.int (nI N)), some (.int (cnt (A (28 + 6)) 3 ns)), some (.int 0)] [] (MH h T U1 (Sm (pS (Sr S nx kp) 28 R.2.1) kp) A3 J1 (Gr G nx)) K = Ev (d + 5) 159 90 [some (.ref 140), some (.int (nI N)), some (.int (cnt (A (28 + 6)) 3 ns)), some (.int (nI N))] [] (MH h T U1 (Sm (pS (Sr S nx kp) 28 R.2.1) kp) (upf A3 142 D') J2 (Gr G nx)) K := fun d K => by
          have l := lp d K
          rw [nI_0] at l
          rw [toD, a3]
          exact l
        refine JW_v (c := (h, T, U, S, A, J, G)) (v := v) (c1 := (h, T, U1, pS (Sr S nx kp) 28 R.2.1, pA (Ar A nx) 28 R.2.2, J, Gr G nx)) (wv178 (fun d K => ?_)) (fun d K => ?_) (r5 D' U U1 J J2 ⟨t, q, sa, n, pg, nz, ns, hs, hN', x3, x1, x2, m + N, hc, x4⟩) ?_ (show J2 155 = _ from g2.trans j155)
        · show EvM (d + 30) 73 [.ref 0, .int (nI N)] (MH h T U S A J G) K = K (.inl (some (.int v))) (MH h T U1 (pS (Sr S nx kp) 28 R.2.1) (pA (Ar A nx) 28 R.2.2) J (Gr G nx))
          have hc1 := fun d K => s_sheetsIn (d := d) (h := h) (T := T) (U := U) (S := Sr S nx kp) (A := Ar A nx) (J := J) (G := Gr G nx) (K := K) (w := 3) (f := S 28) (a := fun j => A (28 + j)) hb (by rw [zf]; exact i2)
          have hc2 := fun d K => s_sheetsIn (d := d) (h := h) (T := T) (U := U1) (S := Sr S nx kp) (A := Ar A nx) (J := J) (G := Gr G nx) (K := K) (w := 3) (f := R.2.1) (a := R.2.2) hb (by rw [zf2]; exact i2)
          rw [zf] at hc1
          rw [zf2] at hc2
          have rl := rc_loop (h := h) (T := T) (S := Sr S nx kp) (A := Ar A nx) (J := J) (G := Gr G nx) (p := cnt (A (28 + 6)) 3 ns) hN hs2 N 0 U (S 28) (fun j => A (28 + j)) (d + 24) K (by omega) (by rw [zf]; exact i2)
          rw [nI_0, hR, hU1] at rl
          have rl : Ev (d + 30) 73 57 [some (.ref 0), some (.int (nI N)), some (.int (cnt (A (28 + 6)) 3 ns)), some (.int 0)] [] (MH h T U (pS (Sr S nx kp) 28 (S 28)) (pA (Ar A nx) 28 (fun j => A (28 + j))) J (Gr G nx)) K = Ev (d + 30) 73 75 [some (.ref 0), some (.int (nI N)), some (.int (cnt (A (28 + 6)) 3 ns)), some (.int (nI N))] [] (MH h T U1 (pS (Sr S nx kp) 28 R.2.1) (pA (Ar A nx) 28 R.2.2) J (Gr G nx)) K := rl
          simp only [i73_0, i73_1, i73_2, i73_4, i73_7, i73_8, i73_11, i73_12, i73_15, i73_18, i73_19, i73_20, i73_22, i73_25, i73_28, i73_29, i73_35, i73_36, i73_39, i73_40, i73_43, i73_46, i73_47, i73_50, i73_51, i73_54, i73_55, i73_56, in73, nl_i, nl_r, nl_0, nl_j, nb0, nb1, nbI, orv_s, konN_v, konN_n, konN_e, true_and, and_true, and_self, if_true, if_false, ite_true, ite_false, isR_ref, true_or, or_true, bI_T, bI_F, bI_Fb, i1z, Bool.false_eq_true, k_l0 hb, k_l1 hb, k_l2 hb, k_l3 hb, k_l4 hb, k_l5 hb, k_l6 hb, k_l7 hb, k_l8 hb, k_l9 hb, k_l10 hb, l_l1 hb, l_l2 hb, l_l3 hb, l_l4 hb, l_l5 hb, l_l6 hb, l_l7 hb, l_l8 hb, l_l9 hb, l_l10 hb, a_l1 hb, a_l2 hb, a_l3 hb, a_l4 hb, a_l5 hb, a_l6 hb, a_l7 hb, a_l8 hb, a_l9 hb, a_l10 hb, wa_l1 hb, wa_l2 hb, wa_l3 hb, wa_l4 hb, wa_l5 hb, wa_l6 hb, wa_l7 hb, wa_l8 hb, wa_l9 hb, wa_l10 hb, f_l0 hb, f_l1 hb, f_l2 hb, f_l3 hb, f_l4 hb, f_l5 hb, f_l6 hb, f_l7 hb, f_l8 hb, f_l9 hb, f_l10 hb, f_l11 hb, f_l12 hb, f_l13 hb, f_l14 hb, w_l0 hb, w_l1 hb, w_l2 hb, w_l3 hb, w_l4 hb, pS_b, pS_up, pA_1, pA_2, pA_3, pA_4, pA_5, pA_6, pA_7, pA_8, pA_9, pA_10, pU_1, pU_2, pU_3, pU_4, pU_5, pU_6, pU_7, pU_8, pU_9, pU_10, mh_N, mh_S, mh_X, mh_alH, k_0, f_0_1, f_0_3, k_50, s_ra0 hx, s_rl0 hs hz, hC.1, nI_add, tm, p_remember e1 hn e2 hk, hc1, rl, i73_75, i73_76, i73_79, i73_80, i73_83, i73_84, i73_85, hc2, hv]
        · show EvM (d + 40) 159 [.ref 140, .int (nI N)] (MH h T U1 (pS (Sr S nx kp) 28 R.2.1) (pA (Ar A nx) 28 R.2.2) (upf J 155 (vp_updL (J 155) 0 v.toInt64)) (Gr G nx)) K = K (.inl (some (.int v))) (MH h T U1 (Sm (pS (Sr S nx kp) 28 R.2.1) kp) (upf A3 142 D') J2 (Gr G nx))
          rw [hJ1]
          have ar : pA (Ar A nx) 28 R.2.2 142 = A 142 := by
            rw [pA_o (by omega)]
            exact pA_o (by omega)
          have d2 : A 142 2 = nI m := hE.1.2.1.trans hC.1
          rw [← ar] at d0
          have k1 := fun d K => p_countOf (d := d) (h := h) (T := T) (U := U1) (S := Sm (pS (Sr S nx kp) 28 R.2.1) kp) (A := A3) (J := J1) (G := Gr G nx) (K := K) (w := 3) (ns := ns) (by rw [a3]; exact hE.1.1) i2
          have k2 := fun d K => p_countOf (d := d) (h := h) (T := T) (U := U1) (S := Sm (pS (Sr S nx kp) 28 R.2.1) kp) (A := upf A3 142 D') (J := J2) (G := Gr G nx) (K := K) (w := 3) (ns := ns) (by rw [upf_same]; exact x2.1.1) i2
          have m1 : cnt (fun s => A3 142 (51 + 3 * s + 2)) 3 ns = cnt (A (28 + 6)) 3 ns := cnt_congr (st := A (28 + 6)) (fun s hs => by rw [a3]; exact (hE.2.2.1 s hs).2.2)
          have m2 : cnt (fun s => upf A3 142 D' 142 (51 + 3 * s + 2)) 3 ns = cnt (R.2.2 6) 3 ns := cnt_congr (st := R.2.2 6) (fun s hs => by rw [upf_same]; exact (x2.2.2.1 s hs).2.2)
          rw [m1] at k1
          rw [m2] at k2
          simp only [i159_0, i159_1, i159_2, i159_5, i159_6, i159_7, i159_8, i159_10, i159_13, i159_16, i159_17, i159_20, i159_21, i159_22, i159_25, i159_28, i159_29, i159_30, i159_33, i159_36, i159_37, i159_40, i159_41, i159_42, i159_43, i159_44, i159_46, i159_49, i159_50, i159_53, i159_54, i159_55, i159_58, i159_61, i159_62, i159_63, i159_64, i159_67, i159_68, i159_69, i159_72, i159_73, i159_74, in159, nl_i, nl_r, nl_0, nl_j, nb0, nb1, nbI, orv_s, konN_v, konN_n, konN_e, true_and, and_true, and_self, if_true, if_false, ite_true, ite_false, isR_ref, true_or, or_true, bI_T, bI_F, bI_Fb, i1z, Bool.false_eq_true, k_140, f_140_1, f_140_8, f_140_9, f_140_10, f_140_11, f_140_15, f_140_0, f_140_2, f_140_3, f_140_4, f_140_5, f_140_6, f_140_7, f_140_12, f_140_13, f_140_14, w_140_0, w_140_2, w_140_3, w_140_4, w_140_5, w_140_6, w_140_7, w_140_12, w_140_13, w_140_14, k_141, l_141, a_141, wa_141, k_142, l_142, a_142, wa_142, k_143, l_143, a_143, wa_143, k_144, l_144, a_144, wa_144, pS_b, pS_up, mh_N, mh_S, mh_X, mh_alH, s_in0 hx, s_fl0, i1n0, s_ie d0 n6, bI_f hzn, ar, ib_2, iz_2, d2, nI_add, tm, r3, k1, lq, i159_90, i159_91, i159_92, i159_95, i159_96, i159_97, k2, hv]
        · show Sm (pS (Sr S nx kp) 28 R.2.1) kp 140 0 = 0
          unfold Sm
          rw [up2_ne (by decide), up2_same]
      · have tm : (nI (m + N) ≤ (100000 : Int32)) = False := eq_false (fun e => hc ((nI_leI (a := m + N) (b := 100000) (by omega) (by omega)).mp e))
        have d2 : A 142 2 = nI m := hE.1.2.1.trans hC.1
        refine je178_1 (b := 0) hG (fun d K => ?_) (fun d K => ?_)
        · simp only [i73_0, i73_1, i73_2, i73_4, i73_7, i73_8, i73_11, i73_12, i73_15, i73_18, i73_19, i73_20, i73_22, i73_25, i73_28, i73_29, i73_35, i73_36, i73_39, i73_40, i73_43, i73_46, i73_47, i73_50, i73_51, i73_54, i73_55, i73_56, in73, nl_i, nl_r, nl_0, nl_j, nb0, nb1, nbI, orv_s, konN_v, konN_n, konN_e, true_and, and_true, and_self, if_true, if_false, ite_true, ite_false, isR_ref, true_or, or_true, bI_T, bI_F, bI_Fb, i1z, Bool.false_eq_true, k_l0 hb, k_l1 hb, k_l2 hb, k_l3 hb, k_l4 hb, k_l5 hb, k_l6 hb, k_l7 hb, k_l8 hb, k_l9 hb, k_l10 hb, l_l1 hb, l_l2 hb, l_l3 hb, l_l4 hb, l_l5 hb, l_l6 hb, l_l7 hb, l_l8 hb, l_l9 hb, l_l10 hb, a_l1 hb, a_l2 hb, a_l3 hb, a_l4 hb, a_l5 hb, a_l6 hb, a_l7 hb, a_l8 hb, a_l9 hb, a_l10 hb, wa_l1 hb, wa_l2 hb, wa_l3 hb, wa_l4 hb, wa_l5 hb, wa_l6 hb, wa_l7 hb, wa_l8 hb, wa_l9 hb, wa_l10 hb, f_l0 hb, f_l1 hb, f_l2 hb, f_l3 hb, f_l4 hb, f_l5 hb, f_l6 hb, f_l7 hb, f_l8 hb, f_l9 hb, f_l10 hb, f_l11 hb, f_l12 hb, f_l13 hb, f_l14 hb, w_l0 hb, w_l1 hb, w_l2 hb, w_l3 hb, w_l4 hb, pS_b, pS_up, pA_1, pA_2, pA_3, pA_4, pA_5, pA_6, pA_7, pA_8, pA_9, pA_10, pU_1, pU_2, pU_3, pU_4, pU_5, pU_6, pU_7, pU_8, pU_9, pU_10, mh_N, mh_S, mh_X, mh_alH, k_0, f_0_1, s_ra0 hx, s_rl0 hs hz, hC.1, nI_add, tm]
        · simp only [i159_0, i159_1, i159_2, i159_5, i159_6, i159_7, i159_8, i159_10, i159_13, i159_16, i159_17, i159_20, i159_21, i159_22, i159_25, i159_28, i159_29, i159_30, i159_33, i159_36, i159_37, i159_40, i159_41, i159_42, i159_43, i159_44, i159_46, i159_49, i159_50, i159_53, i159_54, i159_55, i159_58, i159_61, i159_62, i159_63, i159_64, i159_67, i159_68, i159_69, i159_72, i159_73, i159_74, in159, nl_i, nl_r, nl_0, nl_j, nb0, nb1, nbI, orv_s, konN_v, konN_n, konN_e, true_and, and_true, and_self, if_true, if_false, ite_true, ite_false, isR_ref, true_or, or_true, bI_T, bI_F, bI_Fb, i1z, Bool.false_eq_true, k_140, f_140_1, f_140_8, f_140_9, f_140_10, f_140_11, f_140_15, f_140_0, f_140_2, f_140_3, f_140_4, f_140_5, f_140_6, f_140_7, f_140_12, f_140_13, f_140_14, w_140_0, w_140_2, w_140_3, w_140_4, w_140_5, w_140_6, w_140_7, w_140_12, w_140_13, w_140_14, k_141, l_141, a_141, wa_141, k_142, l_142, a_142, wa_142, k_143, l_143, a_143, wa_143, k_144, l_144, a_144, wa_144, pS_b, pS_up, mh_N, mh_S, mh_X, mh_alH, s_in0 hx, s_fl0, i1n0, s_ie d0 n6, bI_f hzn, ib_2, iz_2, d2, nI_add, tm, s_fl1 (show ¬ (2 : Int32) = 0 by decide)]
    · have hz0 : nz = 0 := by
        rw [q0, nI_pz n6] at hz
        omega
      refine je178_1 (b := 0) hG (fun d K => ?_) (fun d K => ?_)
      · simp only [i73_0, i73_1, i73_2, i73_4, i73_7, i73_8, i73_11, i73_12, i73_15, i73_18, i73_19, i73_20, i73_22, i73_25, i73_28, i73_29, i73_35, i73_36, i73_39, i73_40, i73_43, i73_46, i73_47, i73_50, i73_51, i73_54, i73_55, i73_56, in73, nl_i, nl_r, nl_0, nl_j, nb0, nb1, nbI, orv_s, konN_v, konN_n, konN_e, true_and, and_true, and_self, if_true, if_false, ite_true, ite_false, isR_ref, true_or, or_true, bI_T, bI_F, bI_Fb, i1z, Bool.false_eq_true, k_l0 hb, k_l1 hb, k_l2 hb, k_l3 hb, k_l4 hb, k_l5 hb, k_l6 hb, k_l7 hb, k_l8 hb, k_l9 hb, k_l10 hb, l_l1 hb, l_l2 hb, l_l3 hb, l_l4 hb, l_l5 hb, l_l6 hb, l_l7 hb, l_l8 hb, l_l9 hb, l_l10 hb, a_l1 hb, a_l2 hb, a_l3 hb, a_l4 hb, a_l5 hb, a_l6 hb, a_l7 hb, a_l8 hb, a_l9 hb, a_l10 hb, wa_l1 hb, wa_l2 hb, wa_l3 hb, wa_l4 hb, wa_l5 hb, wa_l6 hb, wa_l7 hb, wa_l8 hb, wa_l9 hb, wa_l10 hb, f_l0 hb, f_l1 hb, f_l2 hb, f_l3 hb, f_l4 hb, f_l5 hb, f_l6 hb, f_l7 hb, f_l8 hb, f_l9 hb, f_l10 hb, f_l11 hb, f_l12 hb, f_l13 hb, f_l14 hb, w_l0 hb, w_l1 hb, w_l2 hb, w_l3 hb, w_l4 hb, pS_b, pS_up, pA_1, pA_2, pA_3, pA_4, pA_5, pA_6, pA_7, pA_8, pA_9, pA_10, pU_1, pU_2, pU_3, pU_4, pU_5, pU_6, pU_7, pU_8, pU_9, pU_10, mh_N, mh_S, mh_X, mh_alH, k_0, f_0_1, s_ra0 hx, s_rl1 hs hz]
      · simp only [i159_0, i159_1, i159_2, i159_5, i159_6, i159_7, i159_8, i159_10, i159_13, i159_16, i159_17, i159_20, i159_21, i159_22, i159_25, i159_28, i159_29, i159_30, i159_33, i159_36, i159_37, i159_40, i159_41, i159_42, i159_43, i159_44, i159_46, i159_49, i159_50, i159_53, i159_54, i159_55, i159_58, i159_61, i159_62, i159_63, i159_64, i159_67, i159_68, i159_69, i159_72, i159_73, i159_74, in159, nl_i, nl_r, nl_0, nl_j, nb0, nb1, nbI, orv_s, konN_v, konN_n, konN_e, true_and, and_true, and_self, if_true, if_false, ite_true, ite_false, isR_ref, true_or, or_true, bI_T, bI_F, bI_Fb, i1z, Bool.false_eq_true, k_140, f_140_1, f_140_8, f_140_9, f_140_10, f_140_11, f_140_15, f_140_0, f_140_2, f_140_3, f_140_4, f_140_5, f_140_6, f_140_7, f_140_12, f_140_13, f_140_14, w_140_0, w_140_2, w_140_3, w_140_4, w_140_5, w_140_6, w_140_7, w_140_12, w_140_13, w_140_14, k_141, l_141, a_141, wa_141, k_142, l_142, a_142, wa_142, k_143, l_143, a_143, wa_143, k_144, l_144, a_144, wa_144, pS_b, pS_up, mh_N, mh_S, mh_X, mh_alH, s_in0 hx, s_fl0, i1n0, s_ie d0 n6, bI_t hz0, s_fl1 (show ¬ (2 : Int32) = 0 by decide)]
  · refine je178_0 (b := 0) hG (fun d K => ?_) (fun d K => ?_)
    · simp only [i73_0, i73_1, i73_2, i73_4, i73_7, i73_8, i73_11, i73_12, i73_15, i73_18, i73_19, i73_20, i73_22, i73_25, i73_28, i73_29, i73_35, i73_36, i73_39, i73_40, i73_43, i73_46, i73_47, i73_50, i73_51, i73_54, i73_55, i73_56, in73, nl_i, nl_r, nl_0, nl_j, nb0, nb1, nbI, orv_s, konN_v, konN_n, konN_e, true_and, and_true, and_self, if_true, if_false, ite_true, ite_false, isR_ref, true_or, or_true, bI_T, bI_F, bI_Fb, i1z, Bool.false_eq_true, k_l0 hb, k_l1 hb, k_l2 hb, k_l3 hb, k_l4 hb, k_l5 hb, k_l6 hb, k_l7 hb, k_l8 hb, k_l9 hb, k_l10 hb, l_l1 hb, l_l2 hb, l_l3 hb, l_l4 hb, l_l5 hb, l_l6 hb, l_l7 hb, l_l8 hb, l_l9 hb, l_l10 hb, a_l1 hb, a_l2 hb, a_l3 hb, a_l4 hb, a_l5 hb, a_l6 hb, a_l7 hb, a_l8 hb, a_l9 hb, a_l10 hb, wa_l1 hb, wa_l2 hb, wa_l3 hb, wa_l4 hb, wa_l5 hb, wa_l6 hb, wa_l7 hb, wa_l8 hb, wa_l9 hb, wa_l10 hb, f_l0 hb, f_l1 hb, f_l2 hb, f_l3 hb, f_l4 hb, f_l5 hb, f_l6 hb, f_l7 hb, f_l8 hb, f_l9 hb, f_l10 hb, f_l11 hb, f_l12 hb, f_l13 hb, f_l14 hb, w_l0 hb, w_l1 hb, w_l2 hb, w_l3 hb, w_l4 hb, pS_b, pS_up, pA_1, pA_2, pA_3, pA_4, pA_5, pA_6, pA_7, pA_8, pA_9, pA_10, pU_1, pU_2, pU_3, pU_4, pU_5, pU_6, pU_7, pU_8, pU_9, pU_10, mh_N, mh_S, mh_X, mh_alH, s_ra1 hx]
    · simp only [i159_0, i159_1, i159_2, i159_5, i159_6, i159_7, i159_8, i159_10, i159_13, i159_16, i159_17, i159_20, i159_21, i159_22, i159_25, i159_28, i159_29, i159_30, i159_33, i159_36, i159_37, i159_40, i159_41, i159_42, i159_43, i159_44, i159_46, i159_49, i159_50, i159_53, i159_54, i159_55, i159_58, i159_61, i159_62, i159_63, i159_64, i159_67, i159_68, i159_69, i159_72, i159_73, i159_74, in159, nl_i, nl_r, nl_0, nl_j, nb0, nb1, nbI, orv_s, konN_v, konN_n, konN_e, true_and, and_true, and_self, if_true, if_false, ite_true, ite_false, isR_ref, true_or, or_true, bI_T, bI_F, bI_Fb, i1z, Bool.false_eq_true, k_140, f_140_1, f_140_8, f_140_9, f_140_10, f_140_11, f_140_15, f_140_0, f_140_2, f_140_3, f_140_4, f_140_5, f_140_6, f_140_7, f_140_12, f_140_13, f_140_14, w_140_0, w_140_2, w_140_3, w_140_4, w_140_5, w_140_6, w_140_7, w_140_12, w_140_13, w_140_14, k_141, l_141, a_141, wa_141, k_142, l_142, a_142, wa_142, k_143, l_143, a_143, wa_143, k_144, l_144, a_144, wa_144, pS_b, pS_up, mh_N, mh_S, mh_X, mh_alH, s_in1 hx, i1n0, s_fl1 (show ¬ (1 : Int32) = 0 by decide)]
theorem o_undo (hG : GR h T S A G) : JI (h, T, U, S, A, J, G) 77 163 [] := by
  obtain ⟨nx, kp, ⟨hn, hk⟩, ⟨e1, e2, e3⟩, H⟩ := hG.2.2.2
  have res := fun d K => s_restore (d := d) (h := h) (T := T) (U := U) (S := S) (A := A) (J := J) (G := G) (K := K) e1 hn e2 hk
  by_cases h0 : kp = 0
  · rw [h0, nI_0] at e3
    refine ⟨-1, (h, T, U, S, A, J, G), (h, T, U, up2 S 140 0 0, A, J, G), GN_t hG, fun d K => ?_, fun d K => ?_, rfl⟩
    · show EvM (d + 40) 77 [.ref 0] (MH h T U S A J G) K = K (.inl (some (.int (-1)))) (MH h T U S A J G)
      simp only [in77, i77_0, i77_1, i77_4, i77_5, i77_8, i77_11, nl_i, nl_r, nl_0, nl_j, nb0, nb1, nbI, orv_s, konN_v, konN_n, konN_e, true_and, and_true, and_self, if_true, if_false, ite_true, ite_false, isR_ref, true_or, or_true, bI_T, bI_F, bI_Fb, i1z, Bool.false_eq_true, k_0, f_0_1, f_0_3, k_50, res, h0]
    · show EvM (d + 40) 163 [.ref 140] (MH h T U S A J G) K = K (.inl (some (.int (-1)))) (MH h T U (up2 S 140 0 0) A J G)
      simp only [in163, i163_0, i163_1, i163_2, i163_5, i163_6, i163_9, i163_12, i163_13, i163_14, i163_15, i163_16, i163_19, i163_20, i163_21, i163_24, i163_25, i163_28, i163_29, i163_32, i163_33, i163_34, i163_37, i163_40, i163_41, i163_44, nl_i, nl_r, nl_0, nl_j, nb0, nb1, nbI, orv_s, konN_v, konN_n, konN_e, true_and, and_true, and_self, if_true, if_false, ite_true, ite_false, isR_ref, true_or, or_true, bI_T, bI_F, bI_Fb, i1z, Bool.false_eq_true, k_140, f_140_1, f_140_8, f_140_9, f_140_10, f_140_11, f_140_15, f_140_0, f_140_2, f_140_3, f_140_4, f_140_5, f_140_6, f_140_7, f_140_12, f_140_13, f_140_14, w_140_0, w_140_2, w_140_3, w_140_4, w_140_5, w_140_6, w_140_7, w_140_12, w_140_13, w_140_14, k_141, l_141, a_141, wa_141, k_142, l_142, a_142, wa_142, k_143, l_143, a_143, wa_143, k_144, l_144, a_144, wa_144, pS_b, pS_up, mh_N, mh_S, mh_X, mh_alH, up2_ne (show ¬ (140 = 140 ∧ 12 = 0) by decide), e3]
  · obtain ⟨e, rfl⟩ : ∃ e, kp = e + 1 := ⟨kp - 1, by omega⟩
    have r8 : (nx + 7) % 8 < 8 := Nat.mod_lt _ (by decide)
    have er : rwI nx (e + 1) e = 52 + 11 * ((nx + 7) % 8) := by
      unfold rwI
      omega
    have hl := H e (by omega)
    rw [er] at hl
    generalize (nx + 7) % 8 = r at res r8 er hl
    have n0 : (nI (e + 1) = 0) = False := eq_false (nI_ne0 (by omega) (by omega))
    have s50 : up2 S 50 1 (nI r) (52 + 11 * r) = S (52 + 11 * r) := funext fun k => up2_ne (by omega)
    rw [s50] at res
    generalize hS1 : up2 (pS (up2 S 50 1 (nI r)) 28 (S (52 + 11 * r))) 50 2 (nI (e + 1 - 1)) = S1 at res
    generalize hA1 : pA A 28 (fun j => A (52 + 11 * r + j)) = A1 at res
    have s1o : ∀ i k, ¬ i = 28 → ¬ i = 50 → S1 i k = S i k := fun i k i1 i2 => by
      rw [← hS1, up2_ne (fun z => i2 z.1), pS_ne i1, up2_ne (fun z => i2 z.1)]
    have s128 : S1 28 = S (52 + 11 * r) := funext fun k => by
      rw [← hS1, up2_ne (fun z => absurd z.1 (by decide))]
      exact if_pos rfl
    have a1o : ∀ i, 38 < i → A1 i = A i := fun i hi => by
      rw [← hA1]
      exact pA_o (by omega)
    refine ⟨nI e, (h, T, U, S1, A1, J, upf G 28 (G (52 + 11 * r))), (h, T, U, up2 (up2 S1 140 0 0) 140 12 (nI e), upf A1 142 (cpF (A1 (146 + e)) (A1 142)), J, upf G 28 (G (52 + 11 * r))), ⟨?_, Nat.le_refl _, Nat.le_add_right _ _, Nat.le_add_right _ _, rfl⟩, fun d K => ?_, fun d K => ?_, rfl⟩
    · obtain ⟨⟨g1, g2⟩, gL, ⟨fl, c1, ⟨c2, c3⟩, c4, c5⟩, -⟩ := hG
      have s2o : ∀ i k, ¬ i = 28 → ¬ i = 50 → ¬ (i = 140 ∧ (k = 0 ∨ k = 12)) → up2 (up2 S1 140 0 0) 140 12 (nI e) i k = S i k := fun i k i1 i2 i3 => by
        rw [up2_ne (fun z => i3 ⟨z.1, Or.inr z.2⟩), up2_ne (fun z => i3 ⟨z.1, Or.inl z.2⟩), s1o i k i1 i2]
      refine ⟨⟨g1, g2⟩, ?_, ⟨fl, c1, ⟨?_, ?_⟩, ?_, ?_⟩, ⟨r, e, ⟨r8, by omega⟩, ⟨?_, ?_, (show up2 (up2 S1 140 0 0) 140 12 (nI e) 140 12 = nI e from up2_same)⟩, fun i hi => ?_⟩⟩
      · show LR h T (upf G 28 (G (52 + 11 * r)) 28) (up2 (up2 S1 140 0 0) 140 12 (nI e) 28) (fun j => upf A1 142 (cpF (A1 (146 + e)) (A1 142)) (28 + j)) (upf A1 142 (cpF (A1 (146 + e)) (A1 142)) 142)
        have x28 : up2 (up2 S1 140 0 0) 140 12 (nI e) 28 = S (52 + 11 * r) := funext fun k => by
          rw [up2_ne (fun z => absurd z.1 (by decide)), up2_ne (fun z => absurd z.1 (by decide)), s128]
        rw [upf_same, upf_same, x28]
        refine LR_cg hl fr_id frT_id (Nat.le_refl _) (fun j j1 j2 => ?_) (by rw [a1o _ (by omega)]; exact cp_deq)
        show upf A1 142 _ (28 + j) = A (52 + 11 * r + j)
        rw [upf_ne _ _ (by omega), ← hA1, pA_g j1 j2]
      · exact (s2o 13 1 (by decide) (by decide) (by decide)).trans c2
      · exact (s2o 140 2 (by decide) (by decide) (by decide)).trans c3
      · exact (s2o 13 8 (by decide) (by decide) (by decide)).trans (c4.trans (s2o 140 7 (by decide) (by decide) (by decide)).symm)
      · show bV (upf A1 142 (cpF (A1 (146 + e)) (A1 142)) 14) (upf A1 142 (cpF (A1 (146 + e)) (A1 142)) 141) fl
        rw [upf_ne _ _ (by decide), upf_ne _ _ (by decide), a1o 141 (by omega), ← hA1, pA_o (by omega)]
        exact c5
      · show up2 (up2 S1 140 0 0) 140 12 (nI e) 50 1 = nI r
        rw [up2_ne (by decide), up2_ne (by decide), ← hS1, up2_ne (by decide), pS_ne (by decide), up2_same]
      · show up2 (up2 S1 140 0 0) 140 12 (nI e) 50 2 = nI e
        rw [up2_ne (by decide), up2_ne (by decide), ← hS1, up2_same]
        rfl
      · have hi2 := H i (by omega)
        have eq : rwI r e i = rwI nx (e + 1) i := by
          unfold rwI at er ⊢
          omega
        have hb := rwI_le (nx := nx) (kp := e + 1) (i := i)
        show LR h T (upf G 28 (G (52 + 11 * r)) (rwI r e i)) (up2 (up2 S1 140 0 0) 140 12 (nI e) (rwI r e i)) (fun j => upf A1 142 (cpF (A1 (146 + e)) (A1 142)) (rwI r e i + j)) (upf A1 142 (cpF (A1 (146 + e)) (A1 142)) (146 + i))
        rw [eq, upf_ne _ _ (by omega), show up2 (up2 S1 140 0 0) 140 12 (nI e) (rwI nx (e + 1) i) = S (rwI nx (e + 1) i) from funext fun k => s2o _ _ (by omega) (by omega) (by omega)]
        refine LR_cg hi2 fr_id frT_id (Nat.le_refl _) (fun j j1 j2 => ?_) (by rw [upf_ne _ _ (by omega), a1o _ (by omega)]; exact deq_id)
        show upf A1 142 _ (rwI nx (e + 1) i + j) = A (rwI nx (e + 1) i + j)
        rw [upf_ne _ _ (by omega), a1o _ (by omega)]
    · show EvM (d + 40) 77 [.ref 0] (MH h T U S A J G) K = K (.inl (some (.int (nI e)))) (MH h T U S1 A1 J (upf G 28 (G (52 + 11 * r))))
      simp only [in77, i77_0, i77_1, i77_4, i77_5, i77_8, i77_11, nl_i, nl_r, nl_0, nl_j, nb0, nb1, nbI, orv_s, konN_v, konN_n, konN_e, true_and, and_true, and_self, if_true, if_false, ite_true, ite_false, isR_ref, true_or, or_true, bI_T, bI_F, bI_Fb, i1z, Bool.false_eq_true, k_0, f_0_1, f_0_3, k_50, res, h0, Nat.add_sub_cancel]
    · show EvM (d + 40) 163 [.ref 140] (MH h T U S1 A1 J (upf G 28 (G (52 + 11 * r)))) K = K (.inl (some (.int (nI e)))) (MH h T U (up2 (up2 S1 140 0 0) 140 12 (nI e)) (upf A1 142 (cpF (A1 (146 + e)) (A1 142))) J (upf G 28 (G (52 + 11 * r))))
      have s12 : S1 140 12 = nI (e + 1) := (s1o 140 12 (by decide) (by decide)).trans e3
      have cc := fun d S K => s_copy (d := d) (h := h) (T := T) (U := U) (S := S) (A := A1) (J := J) (G := upf G 28 (G (52 + 11 * r))) (K := K) (x := 146 + e) (y := 142) (own_h (by omega)) rfl (okl_h (by omega)) rfl (by omega)
      simp only [in163, i163_0, i163_1, i163_2, i163_5, i163_6, i163_9, i163_12, i163_13, i163_14, i163_15, i163_16, i163_19, i163_20, i163_21, i163_24, i163_25, i163_28, i163_29, i163_32, i163_33, i163_34, i163_37, i163_40, i163_41, i163_44, nl_i, nl_r, nl_0, nl_j, nb0, nb1, nbI, orv_s, konN_v, konN_n, konN_e, true_and, and_true, and_self, if_true, if_false, ite_true, ite_false, isR_ref, true_or, or_true, bI_T, bI_F, bI_Fb, i1z, Bool.false_eq_true, mh_N, mh_S, mh_X, mh_alH, f_0_0, f_0_1, f_0_2, f_0_3, f_13_0, f_13_1, w_13_1, f_13_2, w_13_2, f_13_3, w_13_3, f_13_4, w_13_4, f_13_5, w_13_5, f_13_6, w_13_6, f_13_7, w_13_7, f_13_8, w_13_8, f_13_9, f_13_10, w_13_10, f_13_11, f_13_12, w_13_12, f_50_0, f_50_1, w_50_1, f_50_2, w_50_2, f_140_0, w_140_0, f_140_1, f_140_2, w_140_2, f_140_3, w_140_3, f_140_4, w_140_4, f_140_5, w_140_5, f_140_6, w_140_6, f_140_7, w_140_7, f_140_8, f_140_9, f_140_10, f_140_11, f_140_12, w_140_12, f_140_13, w_140_13, f_140_14, w_140_14, f_140_15, w_13_9, k_0, l_0, k_13, l_13, k_14, l_14, k_15, l_15, k_50, l_50, k_51, l_51, k_140, l_140, k_141, l_141, k_142, l_142, k_143, l_143, k_144, l_144, k_145, l_145, k_146, l_146, k_147, l_147, k_148, l_148, k_149, l_149, k_150, l_150, k_151, l_151, k_152, l_152, k_153, l_153, k_154, l_154, k_155, l_155, a_14, wa_14, a_15, wa_15, a_141, wa_141, a_142, wa_142, a_143, wa_143, a_144, wa_144, a_146, wa_146, a_147, wa_147, a_148, wa_148, a_149, wa_149, a_150, wa_150, a_151, wa_151, a_152, wa_152, a_153, wa_153, j_154, j_155, wj_154, wj_155, r_51, r_145, up2_ne (show ¬ (140 = 140 ∧ 12 = 0) by decide), s12, n0, nI_pred, up2_same, inbT (show e < 8 by omega) (show 8 < 2 ^ 31 by omega), zn_nI (show e < 2 ^ 31 by omega), oR_145 (show e < 8 by omega), cc]
end RV
