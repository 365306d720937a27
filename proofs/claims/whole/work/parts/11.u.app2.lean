/-! FACE: append, both -/
section AQ
variable {d : Nat} {h : AH} {T : Nat → Bool} {U S A : Nat → Nat → Int32} {J : Nat → Nat → Int64} {G : Nat → Nat} {K : AO → AH → Prop} {w0 w1 w2 w3 w4 : Int32}
theorem o_append (hG : GR h T S A G) : JI (h, T, U, S, A, J, G) 52 97 [.int w0, .int w1, .int w2, .int w3, .int w4] := by
  obtain ⟨⟨g1, g2⟩, gL, ⟨fl, c1, ⟨c2, c3⟩, c4, c5⟩, gH⟩ := id hG
  by_cases hc : fl + 20 ≤ 700
  · have tm : (nI fl + 20 ≤ (700 : Int32)) = True := by
      rw [show nI fl + 20 = nI (fl + 20) from nI_add fl 20]
      exact eq_true ((nI_leI (a := fl + 20) (b := 700) (by omega) (by omega)).mpr hc)
    obtain ⟨f1, hf1⟩ : ∃ f1, fl + 1 + 1 + 1 + 1 = f1 := ⟨_, rfl⟩
    obtain ⟨f2, hf2⟩ : ∃ f2, f1 + 1 + 1 + 1 + 1 = f2 := ⟨_, rfl⟩
    obtain ⟨f3, hf3⟩ : ∃ f3, f2 + 1 + 1 + 1 + 1 = f3 := ⟨_, rfl⟩
    obtain ⟨f4, hf4⟩ : ∃ f4, f3 + 1 + 1 + 1 + 1 = f4 := ⟨_, rfl⟩
    obtain ⟨f5, hf5⟩ : ∃ f5, f4 + 1 + 1 + 1 + 1 = f5 := ⟨_, rfl⟩
    obtain ⟨a0, ha0⟩ : ∃ a0, A 14 = a0 := ⟨_, rfl⟩
    obtain ⟨b0, hb0⟩ : ∃ b0, A 141 = b0 := ⟨_, rfl⟩
    have v0 : bV a0 b0 fl := by rw [← ha0, ← hb0]; exact c5
    obtain ⟨a1, ha1⟩ : ∃ a, pw a0 fl w0 = a := ⟨_, rfl⟩
    obtain ⟨b1, hb1⟩ : ∃ b, rwd b0 fl w0 = b := ⟨_, rfl⟩
    have v1 : bV a1 b1 f1 := by rw [← ha1, ← hb1, ← hf1]; exact bV_word v0
    obtain ⟨a2, ha2⟩ : ∃ a, pw a1 f1 w1 = a := ⟨_, rfl⟩
    obtain ⟨b2, hb2⟩ : ∃ b, rwd b1 f1 w1 = b := ⟨_, rfl⟩
    have v2 : bV a2 b2 f2 := by rw [← ha2, ← hb2, ← hf2]; exact bV_word v1
    obtain ⟨a3, ha3⟩ : ∃ a, pw a2 f2 w2 = a := ⟨_, rfl⟩
    obtain ⟨b3, hb3⟩ : ∃ b, rwd b2 f2 w2 = b := ⟨_, rfl⟩
    have v3 : bV a3 b3 f3 := by rw [← ha3, ← hb3, ← hf3]; exact bV_word v2
    obtain ⟨a4, ha4⟩ : ∃ a, pw a3 f3 w3 = a := ⟨_, rfl⟩
    obtain ⟨b4, hb4⟩ : ∃ b, rwd b3 f3 w3 = b := ⟨_, rfl⟩
    have v4 : bV a4 b4 f4 := by rw [← ha4, ← hb4, ← hf4]; exact bV_word v3
    obtain ⟨a5, ha5⟩ : ∃ a, pw a4 f4 w4 = a := ⟨_, rfl⟩
    obtain ⟨b5, hb5⟩ : ∃ b, rwd b4 f4 w4 = b := ⟨_, rfl⟩
    have v5 : bV a5 b5 f5 := by rw [← ha5, ← hb5, ← hf5]; exact bV_word v4
    have p0 := fun d K => s_putWord (d := d) (h := h) (T := T) (U := U) (S := S) (A := A) (J := J) (G := G) (K := K) (w := w0) (f := fl) c2 (by omega)
    rw [ha0, hf1, ha1] at p0
    have p1 := fun d K => s_putWord (d := d) (h := h) (T := T) (U := U) (S := (up2 S 13 1 (nI f1))) (A := (upf A 14 a1)) (J := J) (G := G) (K := K) (w := w1) (f := f1) up2_same (by omega)
    rw [up2_up2, upf_same, upf_upf, hf2, ha2] at p1
    have p2 := fun d K => s_putWord (d := d) (h := h) (T := T) (U := U) (S := (up2 S 13 1 (nI f2))) (A := (upf A 14 a2)) (J := J) (G := G) (K := K) (w := w2) (f := f2) up2_same (by omega)
    rw [up2_up2, upf_same, upf_upf, hf3, ha3] at p2
    have p3 := fun d K => s_putWord (d := d) (h := h) (T := T) (U := U) (S := (up2 S 13 1 (nI f3))) (A := (upf A 14 a3)) (J := J) (G := G) (K := K) (w := w3) (f := f3) up2_same (by omega)
    rw [up2_up2, upf_same, upf_upf, hf4, ha4] at p3
    have p4 := fun d K => s_putWord (d := d) (h := h) (T := T) (U := U) (S := (up2 S 13 1 (nI f4))) (A := (upf A 14 a4)) (J := J) (G := G) (K := K) (w := w4) (f := f4) up2_same (by omega)
    rw [up2_up2, upf_same, upf_upf, hf5, ha5] at p4
    obtain ⟨S2, hS2⟩ : ∃ S2, up2 (up2 S 13 1 (nI f5)) 140 0 0 = S2 := ⟨_, rfl⟩
    have s2 : S2 140 2 = nI fl := by
      rw [← hS2, up2_ne (by decide), up2_ne (by decide)]
      exact c3
    have q0 := fun d K => ra_0 (d := d) (h := h) (T := T) (U := U) (S := S2) (A := (upf A 14 a5)) (J := J) (G := G) (K := K) (w0 := w0) (w1 := w1) (w2 := w2) (w3 := w3) (w4 := w4) (f := fl) (l7 := none) s2 (by omega)
    rw [upf_ne _ _ (show ¬ 141 = 14 by decide), hb0, hf1, hb1] at q0
    have q1 := fun d K => ra_1 (d := d) (h := h) (T := T) (U := U) (S := (up2 S2 140 2 (nI f1))) (A := (upf (upf A 14 a5) 141 b1)) (J := J) (G := G) (K := K) (w0 := w0) (w1 := w1) (w2 := w2) (w3 := w3) (w4 := w4) (f := f1) (l7 := (some (.int w0))) up2_same (by omega)
    rw [up2_up2, upf_same, upf_upf, hf2, hb2] at q1
    have q2 := fun d K => ra_2 (d := d) (h := h) (T := T) (U := U) (S := (up2 S2 140 2 (nI f2))) (A := (upf (upf A 14 a5) 141 b2)) (J := J) (G := G) (K := K) (w0 := w0) (w1 := w1) (w2 := w2) (w3 := w3) (w4 := w4) (f := f2) (l7 := (some (.int w1))) up2_same (by omega)
    rw [up2_up2, upf_same, upf_upf, hf3, hb3] at q2
    have q3 := fun d K => ra_3 (d := d) (h := h) (T := T) (U := U) (S := (up2 S2 140 2 (nI f3))) (A := (upf (upf A 14 a5) 141 b3)) (J := J) (G := G) (K := K) (w0 := w0) (w1 := w1) (w2 := w2) (w3 := w3) (w4 := w4) (f := f3) (l7 := (some (.int w2))) up2_same (by omega)
    rw [up2_up2, upf_same, upf_upf, hf4, hb4] at q3
    have q4 := fun d K => ra_4 (d := d) (h := h) (T := T) (U := U) (S := (up2 S2 140 2 (nI f4))) (A := (upf (upf A 14 a5) 141 b4)) (J := J) (G := G) (K := K) (w0 := w0) (w1 := w1) (w2 := w2) (w3 := w3) (w4 := w4) (f := f4) (l7 := (some (.int w3))) up2_same (by omega)
    rw [up2_up2, upf_same, upf_upf, hf5, hb5] at q4
    refine ⟨nI f5, (h, T, U, up2 S 13 1 (nI f5), upf A 14 a5, J, G), (h, T, U, up2 S2 140 2 (nI f5), upf (upf A 14 a5) 141 b5, J, G), ⟨⟨⟨g1, g2⟩, ?_, ⟨f5, by omega, ⟨?_, (show up2 S2 140 2 (nI f5) 140 2 = nI f5 from up2_same)⟩, ?_, ?_⟩, ?_⟩, Nat.le_refl _, Nat.le_add_right _ _, Nat.le_add_right _ _, rfl⟩, fun d K => ?_, fun d K => ?_, rfl⟩
    · show LR h T (G 28) (up2 S2 140 2 (nI f5) 28) (fun j => upf (upf A 14 a5) 141 b5 (28 + j)) (upf (upf A 14 a5) 141 b5 142)
      rw [show up2 S2 140 2 (nI f5) 28 = S 28 from funext fun k => by rw [up2_ne (fun z => absurd z.1 (by decide)), ← hS2, up2_ne (fun z => absurd z.1 (by decide)), up2_ne (fun z => absurd z.1 (by decide))], upf_ne _ _ (show ¬ 142 = 141 by decide), upf_ne _ _ (show ¬ 142 = 14 by decide)]
      exact LR_cg gL fr_id frT_id (Nat.le_refl _) (fun j j1 j2 => (upf_ne _ _ (by omega)).trans (upf_ne _ _ (by omega))) deq_id
    · show up2 S2 140 2 (nI f5) 13 1 = nI f5
      rw [up2_ne (by decide), ← hS2, up2_ne (by decide), up2_same]
    · show up2 S2 140 2 (nI f5) 13 8 = up2 S2 140 2 (nI f5) 140 7
      rw [up2_ne (by decide), up2_ne (by decide), ← hS2, up2_ne (by decide), up2_ne (by decide), up2_ne (by decide), up2_ne (by decide)]
      exact c4
    · show bV (upf (upf A 14 a5) 141 b5 14) (upf (upf A 14 a5) 141 b5 141) f5
      rw [upf_ne _ _ (show ¬ 14 = 141 by decide), upf_same, upf_same]
      exact v5
    · refine HR_cg gH fr_id frT_id (Nat.le_refl _) (fun b k b1 b2 => ?_) ?_ (fun i i1 i2 => (upf_ne _ _ (by omega)).trans (upf_ne _ _ (by omega))) (fun i i1 i2 => ?_) (fun _ _ _ => rfl)
      · show up2 S2 140 2 (nI f5) b k = S b k
        rw [up2_ne (by omega), ← hS2, up2_ne (by omega), up2_ne (by omega)]
      · show up2 S2 140 2 (nI f5) 140 12 = S 140 12
        rw [up2_ne (by decide), ← hS2, up2_ne (by decide), up2_ne (by decide)]
      · show deq (A i) (upf (upf A 14 a5) 141 b5 i)
        rw [upf_ne _ _ (by omega), upf_ne _ _ (by omega)]
        exact deq_id
    · show EvM (d + 40) 52 [.ref 0, .int w0, .int w1, .int w2, .int w3, .int w4] (MH h T U S A J G) K = K (.inl (some (.int (nI f5)))) (MH h T U (up2 S 13 1 (nI f5)) (upf A 14 a5) J G)
      simp only [in52, i52_0, i52_1, i52_4, i52_7, i52_9, i52_10, i52_13, i52_16, i52_17, i52_18, i52_19, i52_22, i52_23, i52_26, i52_27, i52_30, i52_31, i52_34, i52_35, i52_38, i52_39, i52_42, i52_43, i52_46, i52_48, i52_51, i52_52, i52_55, i52_57, i52_60, i52_61, i52_64, i52_67, nl_i, nl_r, nl_0, nl_j, nb0, nb1, nbI, orv_s, konN_v, konN_n, konN_e, true_and, and_true, and_self, if_true, if_false, ite_true, ite_false, isR_ref, true_or, or_true, bI_T, bI_F, bI_Fb, i1z, Bool.false_eq_true, k_13, k_14, l_14, a_14, wa_14, k_15, l_15, a_15, wa_15, f_13_0, f_13_9, f_13_11, w_13_9, f_13_1, f_13_2, f_13_3, f_13_4, f_13_5, f_13_6, f_13_7, f_13_8, f_13_10, f_13_12, w_13_1, w_13_2, w_13_3, w_13_4, w_13_5, w_13_6, w_13_7, w_13_8, w_13_10, w_13_12, pS_b, pS_up, mh_N, mh_S, mh_X, mh_alH, k_0, f_0_0, c2, tm, p0, p1, p2, p3, p4, up2_same]
    · show EvM (d + 40) 97 [.ref 140, .int w0, .int w1, .int w2, .int w3, .int w4] (MH h T U (up2 S 13 1 (nI f5)) (upf A 14 a5) J G) K = K (.inl (some (.int (nI f5)))) (MH h T U (up2 S2 140 2 (nI f5)) (upf (upf A 14 a5) 141 b5) J G)
      simp only [i97_0, i97_1, i97_2, i97_5, i97_6, i97_9, i97_11, i97_12, i97_15, i97_18, i97_19, i97_20, i97_21, in97, nl_i, nl_r, nl_0, nl_j, nb0, nb1, nbI, orv_s, konN_v, konN_n, konN_e, true_and, and_true, and_self, if_true, if_false, ite_true, ite_false, isR_ref, true_or, or_true, bI_T, bI_F, bI_Fb, i1z, Bool.false_eq_true, k_140, f_140_1, f_140_8, f_140_9, f_140_10, f_140_11, f_140_15, f_140_0, f_140_2, f_140_3, f_140_4, f_140_5, f_140_6, f_140_7, f_140_12, f_140_13, f_140_14, w_140_0, w_140_2, w_140_3, w_140_4, w_140_5, w_140_6, w_140_7, w_140_12, w_140_13, w_140_14, k_141, l_141, a_141, wa_141, k_142, l_142, a_142, wa_142, k_143, l_143, a_143, wa_143, k_144, l_144, a_144, wa_144, pS_b, pS_up, mh_N, mh_S, mh_X, mh_alH, hS2, s2, tm, q0, q1, q2, q3, q4]
      rw [i97_23]
      simp only [i97_25, i97_27, i97_120, i97_121, i97_124, nl_i, nl_r, nl_0, nl_j, nb0, nb1, nbI, orv_s, konN_v, konN_n, konN_e, true_and, and_true, and_self, if_true, if_false, ite_true, ite_false, isR_ref, true_or, or_true, bI_T, bI_F, bI_Fb, i1z, Bool.false_eq_true, k_140, f_140_1, f_140_8, f_140_9, f_140_10, f_140_11, f_140_15, f_140_0, f_140_2, f_140_3, f_140_4, f_140_5, f_140_6, f_140_7, f_140_12, f_140_13, f_140_14, w_140_0, w_140_2, w_140_3, w_140_4, w_140_5, w_140_6, w_140_7, w_140_12, w_140_13, w_140_14, k_141, l_141, a_141, wa_141, k_142, l_142, a_142, wa_142, k_143, l_143, a_143, wa_143, k_144, l_144, a_144, wa_144, pS_b, pS_up, mh_N, mh_S, mh_X, mh_alH, show ((20 : Int32) ≤ 20) = True from eq_true (by decide), up2_same]
  · have tm : (nI fl + 20 ≤ (700 : Int32)) = False := by
      rw [show nI fl + 20 = nI (fl + 20) from nI_add fl 20]
      exact eq_false (fun y => hc ((nI_leI (a := fl + 20) (b := 700) (by omega) (by omega)).mp y))
    refine JI_r (-1) hG (fun d K => ?_) (fun d K => ?_)
    · simp only [in52, i52_0, i52_1, i52_4, i52_7, i52_9, i52_10, i52_13, i52_16, i52_17, i52_18, i52_19, i52_22, i52_23, i52_26, i52_27, i52_30, i52_31, i52_34, i52_35, i52_38, i52_39, i52_42, i52_43, i52_46, i52_48, i52_51, i52_52, i52_55, i52_57, i52_60, i52_61, i52_64, i52_67, nl_i, nl_r, nl_0, nl_j, nb0, nb1, nbI, orv_s, konN_v, konN_n, konN_e, true_and, and_true, and_self, if_true, if_false, ite_true, ite_false, isR_ref, true_or, or_true, bI_T, bI_F, bI_Fb, i1z, Bool.false_eq_true, k_13, k_14, l_14, a_14, wa_14, k_15, l_15, a_15, wa_15, f_13_0, f_13_9, f_13_11, w_13_9, f_13_1, f_13_2, f_13_3, f_13_4, f_13_5, f_13_6, f_13_7, f_13_8, f_13_10, f_13_12, w_13_1, w_13_2, w_13_3, w_13_4, w_13_5, w_13_6, w_13_7, w_13_8, w_13_10, w_13_12, pS_b, pS_up, mh_N, mh_S, mh_X, mh_alH, k_0, f_0_0, c2, tm]
    · simp only [i97_0, i97_1, i97_2, i97_5, i97_6, i97_9, i97_11, i97_12, i97_15, i97_18, i97_19, i97_20, i97_21, in97, nl_i, nl_r, nl_0, nl_j, nb0, nb1, nbI, orv_s, konN_v, konN_n, konN_e, true_and, and_true, and_self, if_true, if_false, ite_true, ite_false, isR_ref, true_or, or_true, bI_T, bI_F, bI_Fb, i1z, Bool.false_eq_true, k_140, f_140_1, f_140_8, f_140_9, f_140_10, f_140_11, f_140_15, f_140_0, f_140_2, f_140_3, f_140_4, f_140_5, f_140_6, f_140_7, f_140_12, f_140_13, f_140_14, w_140_0, w_140_2, w_140_3, w_140_4, w_140_5, w_140_6, w_140_7, w_140_12, w_140_13, w_140_14, k_141, l_141, a_141, wa_141, k_142, l_142, a_142, wa_142, k_143, l_143, a_143, wa_143, k_144, l_144, a_144, wa_144, pS_b, pS_up, mh_N, mh_S, mh_X, mh_alH, up2_ne (show ¬ (140 = 140 ∧ 2 = 0) by decide), c3, tm]
end AQ
