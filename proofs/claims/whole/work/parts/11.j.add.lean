/-! FACE: add -/
section AD
variable {d : Nat} {h : AH} {hh : AH} {T : Nat → Bool} {U S A : Nat → Nat → Int32} {J : Nat → Nat → Int64} {G : Nat → Nat} {K : AO → AH → Prop} {c : HP} {x y v w u p : Int32} {nz ns k mc mr t n s nx : Nat} {as : List Value} {q pg f D : Nat → Int32} {a sa : Nat → Nat → Int32}
theorem put_eq (hI : INV nz ns f a) : putL f a x = (upf f 2 (nI (ns + 1)), upf (upf (upf a 4 (upd (a 4) ns x)) 5 (upd (a 5) ns 20)) 6 (upd (a 6) ns 0)) := by
  have i2 := hI.1.2.1
  have e : zn (f 2) = ns := by rw [hI.1.1]; exact zn_nI (by omega)
  unfold putL
  rw [e, hI.1.1, nI_1]
theorem put_inv (hI : INV nz ns f a) (hn : ns < 20) (hz : ¬ nz = 0) (hx : 2 ≤ x ∧ x ≤ 19) : INV nz (ns + 1) (putL f a x).1 (putL f a x).2 := by
  rw [put_eq hI]
  obtain ⟨⟨i1, i2, i3⟩, i4, ⟨i5, i6⟩, i7, i8, i9⟩ := hI
  refine ⟨⟨(show upf f 2 (nI (ns + 1)) 2 = nI (ns + 1) from upf_same _ _ _), hn, fun e => absurd e hz⟩, ?_, ⟨fun z hz => ?_, fun z z' hz hz' hne he => ?_⟩, fun z hz => ?_, fun s' hs' => ?_, fun k hk => ?_⟩
  · rcases i4 with e | ⟨s', s1, s2, s3, s4⟩
    · exact Or.inl e
    · refine Or.inr ⟨s', by omega, s2, s3, ?_⟩
      show upd (a 6) ns 0 s' = 2
      rw [upd_nz (by omega)]
      exact s4
  · rcases i5 z hz with e | ⟨s', s1, s2, s3⟩
    · exact Or.inl e
    · refine Or.inr ⟨s', by omega, s2, ?_⟩
      show upd (a 6) ns 0 s' = 1
      rw [upd_nz (by omega)]
      exact s3
  · exact i6 z z' hz hz' hne he
  · exact i7 z hz
  · show (2 ≤ upd (a 4) ns x s' ∧ upd (a 4) ns x s' ≤ 19) ∧ (20 ≤ upd (a 5) ns 20 s' ∧ upd (a 5) ns 20 s' ≤ 900) ∧ 0 ≤ upd (a 6) ns 0 s' ∧ upd (a 6) ns 0 s' ≤ 5
    by_cases e : s' = ns
    · rw [e, upd_eq, upd_eq, upd_eq]
      exact ⟨hx, by decide, by decide⟩
    · rw [upd_nz e, upd_nz e, upd_nz e]
      exact i8 s' (by omega)
  · exact i9 k hk
theorem put_eql (hI : INV nz ns f a) (hE : EQL nz ns f a D) (hn : ns < 20) (n6 : nz ≤ 6) : EQL nz (ns + 1) (putL f a x).1 (putL f a x).2 (upd (upd (upd (upd D (51 + 3 * ns) x) (51 + 3 * ns + 1) 20) (51 + 3 * ns + 2) 0) 1 (nI (ns + 1))) := by
  rw [put_eq hI]
  have hE3 := EQ_6 (x := ns) (v := 0) n6 (by omega) hn (EQ_5 (x := ns) (v := 20) n6 (by omega) hn (EQ_4 (x := ns) (v := x) n6 (by omega) hn hE))
  rw [upf_ne _ _ (show ¬ 5 = 4 by decide), upf_ne _ _ (show ¬ 6 = 5 by decide), upf_ne _ _ (show ¬ 6 = 4 by decide)] at hE3
  obtain ⟨⟨c1, c2, c3, c4⟩, c5, c6, c7⟩ := hE3
  refine ⟨⟨upd_eq, (upd_nz (by omega)).trans c2, (upd_nz (by omega)).trans c3, c4.imp id (fun e => (upd_nz (by omega)).trans e)⟩, fun z hz => ⟨(upd_nz (by omega)).trans (c5 z hz).1, (upd_nz (by omega)).trans (c5 z hz).2.1, (upd_nz (by omega)).trans (c5 z hz).2.2⟩, fun s hs => ?_, fun k hk => ⟨(upd_nz (by omega)).trans (c7 k hk).1, (upd_nz (by omega)).trans (c7 k hk).2.1, (upd_nz (by omega)).trans (c7 k hk).2.2.1, (upd_nz (by omega)).trans (c7 k hk).2.2.2⟩⟩
  by_cases e : s = ns
  · subst e
    refine ⟨?_, ?_, ?_⟩
    · rw [upd_nz (by omega), upd_nz (by omega), upd_nz (by omega), upd_eq]
      exact (show upd (a 4) s x s = x from upd_eq).symm
    · rw [upd_nz (by omega), upd_nz (by omega), upd_eq]
      exact (show upd (a 5) s 20 s = 20 from upd_eq).symm
    · rw [upd_nz (by omega), upd_eq]
      exact (show upd (a 6) s 0 s = 0 from upd_eq).symm
  · have := c6 s (by omega)
    exact ⟨(upd_nz (by omega)).trans this.1, (upd_nz (by omega)).trans this.2.1, (upd_nz (by omega)).trans this.2.2⟩
theorem o_add (hG : GR h T S A G) : JW (h, T, U, S, A, J, G) 177 158 [.int x, .int y] := by
  obtain ⟨t, q, sa, n, pg, nz, ns, hs, hN', hS, hI, hE, m, hm, hC⟩ := hG.2.1
  have n6 := hS.1.2.1
  have d0 := hS.1.2.2
  have q0 := hS.1.1
  have i2 := hI.1.2.1
  have hb := hb28
  by_cases hx : 1 ≤ x ∧ x ≤ 9999
  · by_cases hy : 1 ≤ y ∧ y ≤ 9999
    · by_cases ht : 2 ≤ thF x y ∧ thF x y ≤ 19
      · have em : (if 2 ≤ thF x y ∧ thF x y ≤ 19 then thF x y else -1) = thF x y := if_pos ht
        have nm : (thF x y = -1) = False := eq_false (fun e => by rw [e] at ht; exact absurd ht (by decide))
        by_cases hz : 0 < q 0
        · have hz0 : ¬ nz = 0 := fun e => by rw [q0, e] at hz; exact absurd hz (by decide)
          by_cases h20 : ns < 20
          · have l20 : (nI ns < (20 : Int32)) = True := eq_true ((nI_ltI (a := ns) (b := 20) (by omega) (by omega)).mpr h20)
            have g20 : (nI ns = (20 : Int32)) = False := eq_false (fun e => by
              have := (nI_eq (a := ns) (b := 20) (by omega) (by omega)).mp e
              omega)
            obtain ⟨nx, kp, ⟨hn, hk⟩, ⟨e1, e2, e3⟩, H⟩ := hG.2.2.2
            obtain ⟨A3, r3, a3, r5⟩ := m_rem (U := U) (J := upf J 155 (vp_updL (J 155) 0 (nI ns).toInt64)) hn hk e1 e2 e3 H hG (putL (S 28) (fun j => A (28 + j)) (thF x y)).1 (putL (S 28) (fun j => A (28 + j)) (thF x y)).2
            refine JW_v (c := (h, T, U, S, A, J, G)) (v := nI ns) (c1 := (h, T, U, pS (Sr S nx kp) 28 (putL (S 28) (fun j => A (28 + j)) (thF x y)).1, pA (Ar A nx) 28 (putL (S 28) (fun j => A (28 + j)) (thF x y)).2, J, Gr G nx)) (wv177 (fun d K => ?_)) (fun d K => ?_) (r5 (upd (upd (upd (upd (A 142) (51 + 3 * ns) (thF x y)) (51 + 3 * ns + 1) 20) (51 + 3 * ns + 2) 0) 1 (nI (ns + 1))) U U J (upf J 155 (vp_updL (J 155) 0 (nI ns).toInt64)) ?_) ?_ (show upf J 155 (vp_updL (J 155) 0 (nI ns).toInt64) 155 = _ from upf_same _ _ _)
            · show EvM (d + 30) 72 [.ref 0, .int x, .int y] (MH h T U S A J G) K = K (.inl (some (.int (nI ns)))) (MH h T U (pS (Sr S nx kp) 28 (putL (S 28) (fun j => A (28 + j)) (thF x y)).1) (pA (Ar A nx) 28 (putL (S 28) (fun j => A (28 + j)) (thF x y)).2) J (Gr G nx))
              have hp := fun d K => s_putSheet (d := d) (h := h) (T := T) (U := U) (S := Sr S nx kp) (A := Ar A nx) (J := J) (G := Gr G nx) (K := K) (f := S 28) (a := fun j => A (28 + j)) (x := thF x y) hb (by rw [hI.1.1]; exact nI_nn (by omega)) (by rw [hI.1.1, l20]; trivial)
              simp only [in72, i72_0, i72_1, i72_2, i72_5, i72_8, i72_9, i72_10, i72_13, i72_16, i72_17, i72_18, i72_21, i72_22, i72_23, i72_24, i72_26, i72_29, i72_30, i72_33, i72_34, i72_37, i72_40, i72_42, i72_45, i72_48, i72_49, i72_55, i72_56, i72_59, i72_60, i72_63, i72_66, i72_67, i72_70, i72_71, i72_74, nl_i, nl_r, nl_0, nl_j, nb0, nb1, nbI, orv_s, konN_v, konN_n, konN_e, true_and, and_true, and_self, if_true, if_false, ite_true, ite_false, isR_ref, true_or, or_true, bI_T, bI_F, bI_Fb, i1z, Bool.false_eq_true, k_l0 hb, k_l1 hb, k_l2 hb, k_l3 hb, k_l4 hb, k_l5 hb, k_l6 hb, k_l7 hb, k_l8 hb, k_l9 hb, k_l10 hb, l_l1 hb, l_l2 hb, l_l3 hb, l_l4 hb, l_l5 hb, l_l6 hb, l_l7 hb, l_l8 hb, l_l9 hb, l_l10 hb, a_l1 hb, a_l2 hb, a_l3 hb, a_l4 hb, a_l5 hb, a_l6 hb, a_l7 hb, a_l8 hb, a_l9 hb, a_l10 hb, wa_l1 hb, wa_l2 hb, wa_l3 hb, wa_l4 hb, wa_l5 hb, wa_l6 hb, wa_l7 hb, wa_l8 hb, wa_l9 hb, wa_l10 hb, f_l0 hb, f_l1 hb, f_l2 hb, f_l3 hb, f_l4 hb, f_l5 hb, f_l6 hb, f_l7 hb, f_l8 hb, f_l9 hb, f_l10 hb, f_l11 hb, f_l12 hb, f_l13 hb, f_l14 hb, w_l0 hb, w_l1 hb, w_l2 hb, w_l3 hb, w_l4 hb, pS_b, pS_up, pA_1, pA_2, pA_3, pA_4, pA_5, pA_6, pA_7, pA_8, pA_9, pA_10, pU_1, pU_2, pU_3, pU_4, pU_5, pU_6, pU_7, pU_8, pU_9, pU_10, mh_N, mh_S, mh_X, mh_alH, k_0, f_0_1, f_0_3, k_50, s_ra0 hx, s_ra0 hy, s_thOf hy.1, s_ra0 ht, s_rl0 hs hz, hI.1.1, l20, p_remember e1 hn e2 hk, hp]
            · show EvM (d + 40) 158 [.ref 140, .int x, .int y] (MH h T U (pS (Sr S nx kp) 28 (putL (S 28) (fun j => A (28 + j)) (thF x y)).1) (pA (Ar A nx) 28 (putL (S 28) (fun j => A (28 + j)) (thF x y)).2) (upf J 155 (vp_updL (J 155) 0 (nI ns).toInt64)) (Gr G nx)) K = K (.inl (some (.int (nI ns)))) (MH h T U (Sm (pS (Sr S nx kp) 28 (putL (S 28) (fun j => A (28 + j)) (thF x y)).1) kp) (upf A3 142 (upd (upd (upd (upd (A 142) (51 + 3 * ns) (thF x y)) (51 + 3 * ns + 1) 20) (51 + 3 * ns + 2) 0) 1 (nI (ns + 1)))) (upf J 155 (vp_updL (J 155) 0 (nI ns).toInt64)) (Gr G nx))
              have ar : pA (Ar A nx) 28 (putL (S 28) (fun j => A (28 + j)) (thF x y)).2 142 = A 142 := by
                rw [pA_o (by omega)]
                exact pA_o (by omega)
              have d1 := hE.1.1
              rw [← ar] at d0
              simp only [in158, i158_0, i158_1, i158_2, i158_5, i158_6, i158_7, i158_8, i158_11, i158_14, i158_15, i158_16, i158_17, i158_20, i158_21, i158_24, i158_25, i158_28, i158_29, i158_30, i158_33, i158_36, i158_37, i158_38, i158_41, i158_44, i158_45, i158_48, i158_49, i158_50, i158_52, i158_55, i158_56, i158_59, i158_60, i158_61, i158_64, i158_67, i158_68, i158_69, i158_70, i158_73, i158_74, i158_75, i158_76, i158_79, i158_82, in157, i157_0, i157_1, i157_4, i157_5, i157_6, i157_9, i157_10, i157_11, i157_14, i157_15, i157_16, i157_17, i157_18, i157_21, i157_22, i157_23, i157_24, i157_26, i157_27, i157_28, i157_31, i157_32, i157_33, i157_34, i157_35, i157_36, i157_37, i157_40, i157_41, i157_42, i157_43, i157_44, i157_45, i157_46, i157_47, i157_50, i157_51, i157_52, i157_53, i157_54, s_sheetAt, nl_i, nl_r, nl_0, nl_j, nb0, nb1, nbI, orv_s, konN_v, konN_n, konN_e, true_and, and_true, and_self, if_true, if_false, ite_true, ite_false, isR_ref, true_or, or_true, bI_T, bI_F, bI_Fb, i1z, Bool.false_eq_true, k_140, f_140_1, f_140_8, f_140_9, f_140_10, f_140_11, f_140_15, f_140_0, f_140_2, f_140_3, f_140_4, f_140_5, f_140_6, f_140_7, f_140_12, f_140_13, f_140_14, w_140_0, w_140_2, w_140_3, w_140_4, w_140_5, w_140_6, w_140_7, w_140_12, w_140_13, w_140_14, k_141, l_141, a_141, wa_141, k_142, l_142, a_142, wa_142, k_143, l_143, a_143, wa_143, k_144, l_144, a_144, wa_144, pS_b, pS_up, mh_N, mh_S, mh_X, mh_alH, s_nm0 hx hy, s_mRec hy.1, em, nm, s_fl0, i1n0, s_ie d0 n6, bI_f hz0, ar, ib_1, iz_1, d1, g20, r3, a3, nI_1, nI_p2, inbT (show 51 + 3 * ns < 1451 by omega) (show 1451 < 2 ^ 31 by omega), zn_nI (show 51 + 3 * ns < 2 ^ 31 by omega), inbT (show 51 + 3 * ns + 1 < 1451 by omega) (show 1451 < 2 ^ 31 by omega), zn_nI (show 51 + 3 * ns + 1 < 2 ^ 31 by omega), inbT (show 51 + 3 * ns + 2 < 1451 by omega) (show 1451 < 2 ^ 31 by omega), zn_nI (show 51 + 3 * ns + 2 < 2 ^ 31 by omega), upf_same, upf_upf, upd_nz (show ¬ (1 : Nat) = 51 + 3 * ns by omega), upd_nz (show ¬ (1 : Nat) = 51 + 3 * ns + 1 by omega), upd_nz (show ¬ (1 : Nat) = 51 + 3 * ns + 2 by omega), upd_eq, nI_pred]
            · exact ⟨t, q, sa, n, pg, nz, ns + 1, hs, hN', STA_upd (Or.inl rfl) (STA_upd (Or.inr (Or.inr (Or.inr (Or.inr (Or.inr (Or.inl ⟨by omega, by omega⟩)))))) (STA_upd (Or.inr (Or.inr (Or.inr (Or.inr (Or.inr (Or.inl ⟨by omega, by omega⟩)))))) (STA_upd (Or.inr (Or.inr (Or.inr (Or.inr (Or.inr (Or.inl ⟨by omega, by omega⟩)))))) hS))), put_inv hI h20 hz0 ht, put_eql hI hE h20 n6, m, hm, hC.1, fun j k j1 j2 hk => by
                show ∃ c, c ≤ m ∧ (upf (upf (upf (fun j => A (28 + j)) 4 _) 5 _) 6 _) j k = nI c
                rw [upf_ne _ _ (by omega), upf_ne _ _ (by omega), upf_ne _ _ (by omega)]
                exact hC.2 j k j1 j2 hk⟩
            · show Sm (pS (Sr S nx kp) 28 (putL (S 28) (fun j => A (28 + j)) (thF x y)).1) kp 140 0 = 0
              unfold Sm
              rw [up2_ne (by decide), up2_same]
          · have e20 : ns = 20 := by omega
            have l20 : (nI ns < (20 : Int32)) = False := by rw [e20]; exact eq_false (by decide)
            have g20 : (nI ns = (20 : Int32)) = True := by rw [e20]; exact eq_true rfl
            refine je177_1 (b := 0) hG (fun d K => ?_) (fun d K => ?_)
            · simp only [in72, i72_0, i72_1, i72_2, i72_5, i72_8, i72_9, i72_10, i72_13, i72_16, i72_17, i72_18, i72_21, i72_22, i72_23, i72_24, i72_26, i72_29, i72_30, i72_33, i72_34, i72_37, i72_40, i72_42, i72_45, i72_48, i72_49, i72_55, i72_56, i72_59, i72_60, i72_63, i72_66, i72_67, i72_70, i72_71, i72_74, nl_i, nl_r, nl_0, nl_j, nb0, nb1, nbI, orv_s, konN_v, konN_n, konN_e, true_and, and_true, and_self, if_true, if_false, ite_true, ite_false, isR_ref, true_or, or_true, bI_T, bI_F, bI_Fb, i1z, Bool.false_eq_true, k_l0 hb, k_l1 hb, k_l2 hb, k_l3 hb, k_l4 hb, k_l5 hb, k_l6 hb, k_l7 hb, k_l8 hb, k_l9 hb, k_l10 hb, l_l1 hb, l_l2 hb, l_l3 hb, l_l4 hb, l_l5 hb, l_l6 hb, l_l7 hb, l_l8 hb, l_l9 hb, l_l10 hb, a_l1 hb, a_l2 hb, a_l3 hb, a_l4 hb, a_l5 hb, a_l6 hb, a_l7 hb, a_l8 hb, a_l9 hb, a_l10 hb, wa_l1 hb, wa_l2 hb, wa_l3 hb, wa_l4 hb, wa_l5 hb, wa_l6 hb, wa_l7 hb, wa_l8 hb, wa_l9 hb, wa_l10 hb, f_l0 hb, f_l1 hb, f_l2 hb, f_l3 hb, f_l4 hb, f_l5 hb, f_l6 hb, f_l7 hb, f_l8 hb, f_l9 hb, f_l10 hb, f_l11 hb, f_l12 hb, f_l13 hb, f_l14 hb, w_l0 hb, w_l1 hb, w_l2 hb, w_l3 hb, w_l4 hb, pS_b, pS_up, pA_1, pA_2, pA_3, pA_4, pA_5, pA_6, pA_7, pA_8, pA_9, pA_10, pU_1, pU_2, pU_3, pU_4, pU_5, pU_6, pU_7, pU_8, pU_9, pU_10, mh_N, mh_S, mh_X, mh_alH, k_0, f_0_1, s_ra0 hx, s_ra0 hy, s_thOf hy.1, s_ra0 ht, s_rl0 hs hz, hI.1.1, l20]
            · simp only [in158, i158_0, i158_1, i158_2, i158_5, i158_6, i158_7, i158_8, i158_11, i158_14, i158_15, i158_16, i158_17, i158_20, i158_21, i158_24, i158_25, i158_28, i158_29, i158_30, i158_33, i158_36, i158_37, i158_38, i158_41, i158_44, i158_45, i158_48, i158_49, i158_50, i158_52, i158_55, i158_56, i158_59, i158_60, i158_61, i158_64, i158_67, i158_68, i158_69, i158_70, i158_73, i158_74, i158_75, i158_76, i158_79, i158_82, nl_i, nl_r, nl_0, nl_j, nb0, nb1, nbI, orv_s, konN_v, konN_n, konN_e, true_and, and_true, and_self, if_true, if_false, ite_true, ite_false, isR_ref, true_or, or_true, bI_T, bI_F, bI_Fb, i1z, Bool.false_eq_true, k_140, f_140_1, f_140_8, f_140_9, f_140_10, f_140_11, f_140_15, f_140_0, f_140_2, f_140_3, f_140_4, f_140_5, f_140_6, f_140_7, f_140_12, f_140_13, f_140_14, w_140_0, w_140_2, w_140_3, w_140_4, w_140_5, w_140_6, w_140_7, w_140_12, w_140_13, w_140_14, k_141, l_141, a_141, wa_141, k_142, l_142, a_142, wa_142, k_143, l_143, a_143, wa_143, k_144, l_144, a_144, wa_144, pS_b, pS_up, mh_N, mh_S, mh_X, mh_alH, s_nm0 hx hy, s_mRec hy.1, em, nm, s_fl0, i1n0, s_ie d0 n6, bI_f hz0, ib_1, iz_1, hE.1.1, g20, s_fl1 (show ¬ (2 : Int32) = 0 by decide)]
        · have hz0 : nz = 0 := by
            rw [q0, nI_pz n6] at hz
            omega
          refine je177_1 (b := 0) hG (fun d K => ?_) (fun d K => ?_)
          · simp only [in72, i72_0, i72_1, i72_2, i72_5, i72_8, i72_9, i72_10, i72_13, i72_16, i72_17, i72_18, i72_21, i72_22, i72_23, i72_24, i72_26, i72_29, i72_30, i72_33, i72_34, i72_37, i72_40, i72_42, i72_45, i72_48, i72_49, i72_55, i72_56, i72_59, i72_60, i72_63, i72_66, i72_67, i72_70, i72_71, i72_74, nl_i, nl_r, nl_0, nl_j, nb0, nb1, nbI, orv_s, konN_v, konN_n, konN_e, true_and, and_true, and_self, if_true, if_false, ite_true, ite_false, isR_ref, true_or, or_true, bI_T, bI_F, bI_Fb, i1z, Bool.false_eq_true, k_0, f_0_1, s_ra0 hx, s_ra0 hy, s_thOf hy.1, s_ra0 ht, s_rl1 hs hz]
          · simp only [in158, i158_0, i158_1, i158_2, i158_5, i158_6, i158_7, i158_8, i158_11, i158_14, i158_15, i158_16, i158_17, i158_20, i158_21, i158_24, i158_25, i158_28, i158_29, i158_30, i158_33, i158_36, i158_37, i158_38, i158_41, i158_44, i158_45, i158_48, i158_49, i158_50, i158_52, i158_55, i158_56, i158_59, i158_60, i158_61, i158_64, i158_67, i158_68, i158_69, i158_70, i158_73, i158_74, i158_75, i158_76, i158_79, i158_82, nl_i, nl_r, nl_0, nl_j, nb0, nb1, nbI, orv_s, konN_v, konN_n, konN_e, true_and, and_true, and_self, if_true, if_false, ite_true, ite_false, isR_ref, true_or, or_true, bI_T, bI_F, bI_Fb, i1z, Bool.false_eq_true, k_140, f_140_1, f_140_8, f_140_9, f_140_10, f_140_11, f_140_15, f_140_0, f_140_2, f_140_3, f_140_4, f_140_5, f_140_6, f_140_7, f_140_12, f_140_13, f_140_14, w_140_0, w_140_2, w_140_3, w_140_4, w_140_5, w_140_6, w_140_7, w_140_12, w_140_13, w_140_14, k_141, l_141, a_141, wa_141, k_142, l_142, a_142, wa_142, k_143, l_143, a_143, wa_143, k_144, l_144, a_144, wa_144, pS_b, pS_up, mh_N, mh_S, mh_X, mh_alH, s_nm0 hx hy, s_mRec hy.1, em, nm, s_fl0, i1n0, s_ie d0 n6, bI_t hz0, s_fl1 (show ¬ (2 : Int32) = 0 by decide)]
      · have em : (if 2 ≤ thF x y ∧ thF x y ≤ 19 then thF x y else -1) = -1 := if_neg ht
        refine je177_0 (b := 0) hG (fun d K => ?_) (fun d K => ?_)
        · simp only [in72, i72_0, i72_1, i72_2, i72_5, i72_8, i72_9, i72_10, i72_13, i72_16, i72_17, i72_18, i72_21, i72_22, i72_23, i72_24, i72_26, i72_29, i72_30, i72_33, i72_34, i72_37, i72_40, i72_42, i72_45, i72_48, i72_49, i72_55, i72_56, i72_59, i72_60, i72_63, i72_66, i72_67, i72_70, i72_71, i72_74, nl_i, nl_r, nl_0, nl_j, nb0, nb1, nbI, orv_s, konN_v, konN_n, konN_e, true_and, and_true, and_self, if_true, if_false, ite_true, ite_false, isR_ref, true_or, or_true, bI_T, bI_F, bI_Fb, i1z, Bool.false_eq_true, s_ra0 hx, s_ra0 hy, s_thOf hy.1, s_ra1 ht, mh_alH]
        · simp only [in158, i158_0, i158_1, i158_2, i158_5, i158_6, i158_7, i158_8, i158_11, i158_14, i158_15, i158_16, i158_17, i158_20, i158_21, i158_24, i158_25, i158_28, i158_29, i158_30, i158_33, i158_36, i158_37, i158_38, i158_41, i158_44, i158_45, i158_48, i158_49, i158_50, i158_52, i158_55, i158_56, i158_59, i158_60, i158_61, i158_64, i158_67, i158_68, i158_69, i158_70, i158_73, i158_74, i158_75, i158_76, i158_79, i158_82, nl_i, nl_r, nl_0, nl_j, nb0, nb1, nbI, orv_s, konN_v, konN_n, konN_e, true_and, and_true, and_self, if_true, if_false, ite_true, ite_false, isR_ref, true_or, or_true, bI_T, bI_F, bI_Fb, i1z, Bool.false_eq_true, k_140, f_140_1, f_140_8, f_140_9, f_140_10, f_140_11, f_140_15, f_140_0, f_140_2, f_140_3, f_140_4, f_140_5, f_140_6, f_140_7, f_140_12, f_140_13, f_140_14, w_140_0, w_140_2, w_140_3, w_140_4, w_140_5, w_140_6, w_140_7, w_140_12, w_140_13, w_140_14, k_141, l_141, a_141, wa_141, k_142, l_142, a_142, wa_142, k_143, l_143, a_143, wa_143, k_144, l_144, a_144, wa_144, pS_b, pS_up, mh_N, mh_S, mh_X, mh_alH, s_nm0 hx hy, s_mRec hy.1, em, i1n0, s_fl1 (show ¬ (1 : Int32) = 0 by decide)]
    · refine je177_0 (b := 0) hG (fun d K => ?_) (fun d K => ?_)
      · simp only [in72, i72_0, i72_1, i72_2, i72_5, i72_8, i72_9, i72_10, i72_13, i72_16, i72_17, i72_18, i72_21, i72_22, i72_23, i72_24, i72_26, i72_29, i72_30, i72_33, i72_34, i72_37, i72_40, i72_42, i72_45, i72_48, i72_49, i72_55, i72_56, i72_59, i72_60, i72_63, i72_66, i72_67, i72_70, i72_71, i72_74, nl_i, nl_r, nl_0, nl_j, nb0, nb1, nbI, orv_s, konN_v, konN_n, konN_e, true_and, and_true, and_self, if_true, if_false, ite_true, ite_false, isR_ref, true_or, or_true, bI_T, bI_F, bI_Fb, i1z, Bool.false_eq_true, s_ra0 hx, s_ra1 hy, mh_alH]
      · simp only [in158, i158_0, i158_1, i158_2, i158_5, i158_6, i158_7, i158_8, i158_11, i158_14, i158_15, i158_16, i158_17, i158_20, i158_21, i158_24, i158_25, i158_28, i158_29, i158_30, i158_33, i158_36, i158_37, i158_38, i158_41, i158_44, i158_45, i158_48, i158_49, i158_50, i158_52, i158_55, i158_56, i158_59, i158_60, i158_61, i158_64, i158_67, i158_68, i158_69, i158_70, i158_73, i158_74, i158_75, i158_76, i158_79, i158_82, nl_i, nl_r, nl_0, nl_j, nb0, nb1, nbI, orv_s, konN_v, konN_n, konN_e, true_and, and_true, and_self, if_true, if_false, ite_true, ite_false, isR_ref, true_or, or_true, bI_T, bI_F, bI_Fb, i1z, Bool.false_eq_true, k_140, f_140_1, f_140_8, f_140_9, f_140_10, f_140_11, f_140_15, f_140_0, f_140_2, f_140_3, f_140_4, f_140_5, f_140_6, f_140_7, f_140_12, f_140_13, f_140_14, w_140_0, w_140_2, w_140_3, w_140_4, w_140_5, w_140_6, w_140_7, w_140_12, w_140_13, w_140_14, k_141, l_141, a_141, wa_141, k_142, l_142, a_142, wa_142, k_143, l_143, a_143, wa_143, k_144, l_144, a_144, wa_144, pS_b, pS_up, mh_N, mh_S, mh_X, mh_alH, s_nm1 (fun z => hy z.2), i1n0]
  · refine je177_0 (b := 0) hG (fun d K => ?_) (fun d K => ?_)
    · simp only [in72, i72_0, i72_1, i72_2, i72_5, i72_8, i72_9, i72_10, i72_13, i72_16, i72_17, i72_18, i72_21, i72_22, i72_23, i72_24, i72_26, i72_29, i72_30, i72_33, i72_34, i72_37, i72_40, i72_42, i72_45, i72_48, i72_49, i72_55, i72_56, i72_59, i72_60, i72_63, i72_66, i72_67, i72_70, i72_71, i72_74, nl_i, nl_r, nl_0, nl_j, nb0, nb1, nbI, orv_s, konN_v, konN_n, konN_e, true_and, and_true, and_self, if_true, if_false, ite_true, ite_false, isR_ref, true_or, or_true, bI_T, bI_F, bI_Fb, i1z, Bool.false_eq_true, s_ra1 hx, mh_alH]
    · simp only [in158, i158_0, i158_1, i158_2, i158_5, i158_6, i158_7, i158_8, i158_11, i158_14, i158_15, i158_16, i158_17, i158_20, i158_21, i158_24, i158_25, i158_28, i158_29, i158_30, i158_33, i158_36, i158_37, i158_38, i158_41, i158_44, i158_45, i158_48, i158_49, i158_50, i158_52, i158_55, i158_56, i158_59, i158_60, i158_61, i158_64, i158_67, i158_68, i158_69, i158_70, i158_73, i158_74, i158_75, i158_76, i158_79, i158_82, nl_i, nl_r, nl_0, nl_j, nb0, nb1, nbI, orv_s, konN_v, konN_n, konN_e, true_and, and_true, and_self, if_true, if_false, ite_true, ite_false, isR_ref, true_or, or_true, bI_T, bI_F, bI_Fb, i1z, Bool.false_eq_true, k_140, f_140_1, f_140_8, f_140_9, f_140_10, f_140_11, f_140_15, f_140_0, f_140_2, f_140_3, f_140_4, f_140_5, f_140_6, f_140_7, f_140_12, f_140_13, f_140_14, w_140_0, w_140_2, w_140_3, w_140_4, w_140_5, w_140_6, w_140_7, w_140_12, w_140_13, w_140_14, k_141, l_141, a_141, wa_141, k_142, l_142, a_142, wa_142, k_143, l_143, a_143, wa_143, k_144, l_144, a_144, wa_144, pS_b, pS_up, mh_N, mh_S, mh_X, mh_alH, s_nm1 (fun z => hx z.1), i1n0]
end AD
