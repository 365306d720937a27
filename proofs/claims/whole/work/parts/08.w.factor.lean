/-! READING: factors; heat expressions as a whole -/
section JF
variable {c c2 : HP} {g : Nat → Int32} {n : Nat} {ec hs ob ud sn : Int32}
theorem j_fparen (hv : bV (cB c) g n) (hg : rB c2 = g) (hn : n ≤ 700) {dp F x sc nc : Nat} {st D : Nat → Int32} {nu : Int32} (hdp : dp ≤ 4) (hS : dp < 4 → jS c c2 g n ec hs ob ud sn 40 109 7 (9 - 2 * (dp + 1) + 1 + 1) (dp + 1) F) (hx : x ≤ n) (hF : n - x < F + 1) (hsc : sc ≤ skT g n x) (hnc : 2 * nc + 1 ≤ 3 * skT g n x) (hD : D 8 = nI nc) (hsg : sgB g n (skT g n x) 40 = true) :
    jOk c c2 g n ec hs ob ud sn 42 107 5 (9 - 2 * dp) dp x sc nc st D nu ∨ jBad c c2 g n ec hs ob ud sn 42 107 5 dp x sc st D nu := by
  have hsk := skT_le (g := g) hx
  have c40 : (0 : Int32) ≤ 40 ∧ (40 : Int32) < 128 := by decide
  have c41 : (0 : Int32) ≤ 41 ∧ (41 : Int32) < 128 := by decide
  have q1 : (sgB g n (skT g n x) 40 = true) = (bA g n (skT g n x) = 40) := sg_iff (by decide)
  have b40 := q1.mp hsg
  have hnx := nxT_sg hsg
  by_cases h4 : dp = 4
  · subst h4
    refine Or.inr ⟨upf (upf (rd g n (skT g n x) nu ec hs sc) 7 (-5)) 8 (nI (skT g n x)), upf (upf (upf (upf (upf (rm n (skT g n x) 4 ob ud sn) 5 (-5)) 6 (nI (skT g n x))) 4 (nI (skT g n x + 1))) 13 (nI (4 + 1))) 13 (nI 4), st, D, ⟨(by decide : ¬ (-5 : Int32) = 0), rfl, rfl, rfl, rfl, rfl, rfl, rfl⟩, fun e K he => ?_, fun e K he => ?_⟩
    · simp only [i42_0, i42_1, i42_3, i42_6, i42_9, i42_10, i42_11, i42_14, i42_15, i42_17, i42_20, in42, nl_i, nl_r, nl_0, nl_j, nb0, nb1, nbI, orv_s, konN_v, konN_n, konN_e, true_and, and_true, and_self, if_true, if_false, ite_true, ite_false, isR_ref, true_or, or_true, bI_T, bI_F, bI_Fb, i1z, Bool.false_eq_true, c_k, c_signIs hv hn c40, hsg, show (nI 4 < (4 : Int32)) = False from eq_false (by decide), c_fail, rd_4]
    · have h5 : ¬ (upf (upf (upf (upf (rm n (skT g n x) 4 ob ud sn) 5 (-5)) 6 (nI (skT g n x))) 4 (nI (skT g n x + 1))) 13 (nI (4 + 1))) 5 = 0 := (by decide : ¬ (-5 : Int32) = 0)
      have r4 : (upf (upf (rm n (skT g n x) 4 ob ud sn) 5 (-5)) 6 (nI (skT g n x))) 4 = nI (skT g n x) := rfl
      have r13 : (upf (upf (upf (rm n (skT g n x) 4 ob ud sn) 5 (-5)) 6 (nI (skT g n x))) 4 (nI (skT g n x + 1))) 13 = nI 4 := rfl
      have r13b : (upf (upf (upf (upf (rm n (skT g n x) 4 ob ud sn) 5 (-5)) 6 (nI (skT g n x))) 4 (nI (skT g n x + 1))) 13 (nI (4 + 1))) 13 = nI (4 + 1) := rfl
      have n4 : (nI 4 = (4 : Int32)) = True := eq_true rfl
      simp only [i107_0, i107_1, i107_4, i107_7, i107_8, i107_9, i107_12, i107_13, i107_14, i107_16, i107_19, i107_20, i107_23, i107_24, i107_27, i107_28, i107_30, i107_31, i107_34, i107_37, i107_38, i107_39, i107_42, i107_43, i107_44, i107_47, i107_48, i107_49, i107_52, i107_53, i107_54, i107_57, i107_58, i107_61, i107_62, i107_64, i107_67, i107_68, i107_69, i107_72, i107_73, i107_74, i107_77, in107, nl_i, nl_r, nl_0, nl_j, nb0, nb1, nbI, orv_s, konN_v, konN_n, konN_e, true_and, and_true, and_self, if_true, if_false, ite_true, ite_false, isR_ref, true_or, or_true, bI_T, bI_F, bI_Fb, i1z, Bool.false_eq_true, r_k, r_isGood, rm_5, r_next hg hn hx, b40, r_f13, r_f4, r_w13, r_w4, rm_13, rm_4, n4, r_report rm_5, r4, r13, r13b, nI_1, sumB h5, r_expectB h5, nI_pred]
  · have hlt : (nI dp < (4 : Int32)) = True := eq_true ((nI_ltI (a := dp) (b := 4) (by omega) (by omega)).mpr (by omega))
    have hne : (nI dp = (4 : Int32)) = False := eq_false (fun z => h4 ((nI_eq (a := dp) (b := 4) (by omega) (by omega)).mp z))
    have hsk1 := skT_le (g := g) (n := n) (p := skT g n x + 1) hnx.1
    have hkx : 9 - 2 * (dp + 1) + 1 + 1 = 9 - 2 * dp := by omega
    have z1 : skT g n x + 1 ≤ n ∧ n - (skT g n x + 1) < F ∧ sc ≤ skT g n (skT g n x + 1) ∧ 2 * nc + 1 ≤ 3 * skT g n (skT g n x + 1) := by omega
    rcases hS (by omega) (skT g n x + 1) sc nc st D nu z1.1 z1.2.1 z1.2.2.1 z1.2.2.2 hD with ⟨x1, nu1, L1, R1, a1, a2, a3, a4, a5, a6, a7⟩ | ⟨r', m', st', D', b1, b2, b3⟩
    · rw [hkx] at a3
      have hsk2 := skT_le (g := g) a2
      have q2 : (sgB g n (skT g n x1) 41 = true) = (bA g n (skT g n x1) = 41) := sg_iff (by decide)
      by_cases h41 : sgB g n (skT g n x1) 41 = true
      · have b41 := q2.mp h41
        have hnx1 := nxT_sg h41
        refine Or.inl ⟨skT g n x1 + 1, nu1, L1, R1, by omega, by omega, a3, by omega, by omega, fun e K he => ?_, fun e K he => ?_⟩
        · obtain ⟨e, rfl⟩ : ∃ e', e = e' + 3 := ⟨e - 3, by omega⟩
          have k1 := fun K => a6 e K (by omega)
          simp only [i42_0, i42_1, i42_3, i42_6, i42_9, i42_10, i42_11, i42_14, i42_15, i42_17, i42_20, i42_21, i42_22, i42_25, i42_26, i42_27, i42_28, i42_29, i42_32, i42_35, i42_36, i42_38, i42_41, i42_44, i42_45, i42_48, i42_49, in42, nl_i, nl_r, nl_0, nl_j, nb0, nb1, nbI, orv_s, konN_v, konN_n, konN_e, true_and, and_true, and_self, if_true, if_false, ite_true, ite_false, isR_ref, true_or, or_true, bI_T, bI_F, bI_Fb, i1z, Bool.false_eq_true, c_k, c_signIs hv hn c40, hsg, hlt, c_tok hv hn hsk.2, hnx.2, nI_1, k1, c_takeSign hv hn hsk2.2 c41, h41, hnx1.2]
        · obtain ⟨e, rfl⟩ : ∃ e', e = e' + 3 := ⟨e - 3, by omega⟩
          have k1 := fun K => a7 e K (by omega)
          simp only [i107_0, i107_1, i107_4, i107_7, i107_8, i107_9, i107_12, i107_13, i107_14, i107_16, i107_19, i107_20, i107_23, i107_24, i107_27, i107_28, i107_30, i107_31, i107_34, i107_37, i107_38, i107_39, i107_42, i107_43, i107_44, i107_47, i107_48, i107_49, i107_52, i107_53, i107_54, i107_57, i107_58, i107_61, i107_62, i107_64, i107_67, i107_68, i107_69, i107_72, i107_73, i107_74, i107_77, in107, nl_i, nl_r, nl_0, nl_j, nb0, nb1, nbI, orv_s, konN_v, konN_n, konN_e, true_and, and_true, and_self, if_true, if_false, ite_true, ite_false, isR_ref, true_or, or_true, bI_T, bI_F, bI_Fb, i1z, Bool.false_eq_true, r_k, r_isGood, rm_5, r_next hg hn hx, b40, r_f13, r_f4, r_w13, r_w4, rm_13, rm_4, hne, nI_1, rm_u4, rm_u13, k1, r_expect hg hn a2, b41, nI_pred]
      · have b41 : ¬ bA g n (skT g n x1) = 41 := fun z => h41 (q2.mpr z)
        have h41f : sgB g n (skT g n x1) 41 = false := Bool.eq_false_iff.mpr h41
        refine Or.inr ⟨upf (upf (rd g n (skT g n x1) nu1 ec hs (sc + L1.length)) 7 (-2)) 8 (nI (skT g n x1)), upf (upf (upf (rm n (skT g n x1) (dp + 1) ob ud sn) 5 (-2)) 6 (nI (skT g n x1))) 13 (nI dp), apL st sc L1, apR D nc R1, ⟨(by decide : ¬ (-2 : Int32) = 0), rfl, rfl, rfl, rfl, rfl, rfl, rfl⟩, fun e K he => ?_, fun e K he => ?_⟩
        · obtain ⟨e, rfl⟩ : ∃ e', e = e' + 3 := ⟨e - 3, by omega⟩
          have k1 := fun K => a6 e K (by omega)
          simp only [i42_0, i42_1, i42_3, i42_6, i42_9, i42_10, i42_11, i42_14, i42_15, i42_17, i42_20, i42_21, i42_22, i42_25, i42_26, i42_27, i42_28, i42_29, i42_32, i42_35, i42_36, i42_38, i42_41, i42_44, i42_45, i42_48, i42_49, in42, nl_i, nl_r, nl_0, nl_j, nb0, nb1, nbI, orv_s, konN_v, konN_n, konN_e, true_and, and_true, and_self, if_true, if_false, ite_true, ite_false, isR_ref, true_or, or_true, bI_T, bI_F, bI_Fb, i1z, Bool.false_eq_true, c_k, c_signIs hv hn c40, hsg, hlt, c_tok hv hn hsk.2, hnx.2, nI_1, k1, c_takeSign hv hn hsk2.2 c41, h41f]
        · obtain ⟨e, rfl⟩ : ∃ e', e = e' + 3 := ⟨e - 3, by omega⟩
          have k1 := fun K => a7 e K (by omega)
          have r13 : (upf (upf (rm n (skT g n x1) (dp + 1) ob ud sn) 5 (-2)) 6 (nI (skT g n x1))) 13 = nI (dp + 1) := rfl
          simp only [i107_0, i107_1, i107_4, i107_7, i107_8, i107_9, i107_12, i107_13, i107_14, i107_16, i107_19, i107_20, i107_23, i107_24, i107_27, i107_28, i107_30, i107_31, i107_34, i107_37, i107_38, i107_39, i107_42, i107_43, i107_44, i107_47, i107_48, i107_49, i107_52, i107_53, i107_54, i107_57, i107_58, i107_61, i107_62, i107_64, i107_67, i107_68, i107_69, i107_72, i107_73, i107_74, i107_77, in107, nl_i, nl_r, nl_0, nl_j, nb0, nb1, nbI, orv_s, konN_v, konN_n, konN_e, true_and, and_true, and_self, if_true, if_false, ite_true, ite_false, isR_ref, true_or, or_true, bI_T, bI_F, bI_Fb, i1z, Bool.false_eq_true, r_k, r_isGood, rm_5, r_next hg hn hx, b40, r_f13, r_f4, r_w13, r_w4, rm_13, rm_4, hne, nI_1, rm_u4, rm_u13, k1, r_expect hg hn a2, b41, r13, nI_pred]
    · obtain ⟨y1, y2, y3, y4, y5, y6, y7, y8⟩ := b1
      refine Or.inr ⟨r', upf m' 13 (m' 13 - 1), st', D', ⟨y1, y2, y3, y4, y5, y6, y7, y8⟩, fun e K he => ?_, fun e K he => ?_⟩
      · obtain ⟨e, rfl⟩ : ∃ e', e = e' + 3 := ⟨e - 3, by omega⟩
        have k1 := fun K => b2 e K (by omega)
        simp only [i42_0, i42_1, i42_3, i42_6, i42_9, i42_10, i42_11, i42_14, i42_15, i42_17, i42_20, i42_21, i42_22, i42_25, i42_26, i42_27, i42_28, i42_29, i42_32, i42_35, i42_36, i42_38, i42_41, i42_44, i42_45, i42_48, i42_49, in42, nl_i, nl_r, nl_0, nl_j, nb0, nb1, nbI, orv_s, konN_v, konN_n, konN_e, true_and, and_true, and_self, if_true, if_false, ite_true, ite_false, isR_ref, true_or, or_true, bI_T, bI_F, bI_Fb, i1z, Bool.false_eq_true, c_k, c_signIs hv hn c40, hsg, hlt, c_tok hv hn hsk.2, hnx.2, nI_1, k1]
      · obtain ⟨e, rfl⟩ : ∃ e', e = e' + 3 := ⟨e - 3, by omega⟩
        have k1 := fun K => b3 e K (by omega)
        simp only [i107_0, i107_1, i107_4, i107_7, i107_8, i107_9, i107_12, i107_13, i107_14, i107_16, i107_19, i107_20, i107_23, i107_24, i107_27, i107_28, i107_30, i107_31, i107_34, i107_37, i107_38, i107_39, i107_42, i107_43, i107_44, i107_47, i107_48, i107_49, i107_52, i107_53, i107_54, i107_57, i107_58, i107_61, i107_62, i107_64, i107_67, i107_68, i107_69, i107_72, i107_73, i107_74, i107_77, in107, nl_i, nl_r, nl_0, nl_j, nb0, nb1, nbI, orv_s, konN_v, konN_n, konN_e, true_and, and_true, and_self, if_true, if_false, ite_true, ite_false, isR_ref, true_or, or_true, bI_T, bI_F, bI_Fb, i1z, Bool.false_eq_true, r_k, r_isGood, rm_5, r_next hg hn hx, b40, r_f13, r_f4, r_w13, r_w4, rm_13, rm_4, hne, nI_1, rm_u4, rm_u13, k1, r_expectB y1]
theorem le0m1 : ((0 : Int32) ≤ -1) = False := eq_false (by decide)
theorem le00 : ((0 : Int32) ≤ 0) = True := eq_true (by decide)
theorem le01 : ((0 : Int32) ≤ 1) = True := eq_true (by decide)
theorem le02 : ((0 : Int32) ≤ 2) = True := eq_true (by decide)
theorem j_fnum (hv : bV (cB c) g n) (hg : rB c2 = g) (hn : n ≤ 700) {dp F x sc nc : Nat} {st D : Nat → Int32} {nu : Int32} (hdp : dp ≤ 4) (hx : x ≤ n) (hF : n - x < F + 1) (hsc : sc ≤ skT g n x) (hnc : 2 * nc + 1 ≤ 3 * skT g n x) (hD : D 8 = nI nc) (hsg : ¬ sgB g n (skT g n x) 40 = true) (hk : kdT g n (skT g n x) = 1) :
    jOk c c2 g n ec hs ob ud sn 42 107 5 (9 - 2 * dp) dp x sc nc st D nu ∨ jBad c c2 g n ec hs ob ud sn 42 107 5 dp x sc st D nu := by
  have hsk := skT_le (g := g) hx
  have c40 : (0 : Int32) ≤ 40 ∧ (40 : Int32) < 128 := by decide
  have q1 : (sgB g n (skT g n x) 40 = true) = (bA g n (skT g n x) = 40) := sg_iff (by decide)
  have b40 : ¬ bA g n (skT g n x) = 40 := fun z => hsg (q1.mpr z)
  have hsgf : sgB g n (skT g n x) 40 = false := Bool.eq_false_iff.mpr hsg
  have hpn : skT g n x < n := kdT_in (g := g) (by rw [hk]; decide)
  have hdg : isDg (bA g n (skT g n x)) = true := kd1_iff ▸ hk
  have ht := teT_le (g := g) hsk.2
  have ht1 := teT_lt (g := g) hpn
  have hnx : nxT g n (skT g n x) = skT g n (teT g n (skT g n x)) := rfl
  have h99 : (9999 : Int32) < 100000 := by decide
  have hc1 : nc < 1200 := by omega
  have hc2 : nc + 1 < 1200 := by omega
  have hs7 : sc < 700 := by omega
  by_cases hr : 0 ≤ nmT g n (skT g n x) ∧ nmT g n (skT g n x) ≤ 9999
  · refine Or.inl ⟨teT g n (skT g n x), nmT g n (skT g n x), [nmT g n (skT g n x)], [0, nmT g n (skT g n x)], ht1, ht.2, gx_mono (gx_num hr.1 hr.2) (by omega), ?_, ?_, fun e K he => ?_, fun e K he => ?_⟩
    · show 1 ≤ _
      omega
    · show 2 * 2 ≤ _
      omega
    · simp only [i42_0, i42_1, i42_3, i42_6, i42_50, i42_51, i42_54, i42_55, i42_58, i42_59, i42_60, i42_63, i42_66, i42_69, i42_70, i42_71, i42_72, i42_73, i42_76, i42_79, i42_80, in42, nl_i, nl_r, nl_0, nl_j, nb0, nb1, nbI, orv_s, konN_v, konN_n, konN_e, true_and, and_true, and_self, if_true, if_false, ite_true, ite_false, isR_ref, true_or, or_true, bI_T, bI_F, bI_Fb, i1z, Bool.false_eq_true, c_k, c_signIs hv hn c40, hsgf, c_f3, rd_3, hk, c_takeNumber hv hn hsk.2 h99, hr, c_f6, rd_6, c_putStep hs7, hnx]
      rfl
    · simp only [i107_0, i107_1, i107_4, i107_7, i107_8, i107_9, i107_12, i107_13, i107_14, i107_16, i107_78, i107_79, i107_82, i107_85, i107_86, i107_129, i107_130, i107_131, i107_134, i107_135, i107_136, i107_139, i107_142, i107_145, i107_146, i107_147, i107_148, i107_149, i107_152, i107_153, i107_156, i107_157, i107_160, i107_161, i107_162, i107_165, in107, nl_i, nl_r, nl_0, nl_j, nb0, nb1, nbI, orv_s, konN_v, konN_n, konN_e, true_and, and_true, and_self, if_true, if_false, ite_true, ite_false, isR_ref, true_or, or_true, bI_T, bI_F, bI_Fb, i1z, Bool.false_eq_true, r_k, r_isGood, rm_5, r_next hg hn hx, b40, s_mDigit, hdg, le0m1, r_number hg hn hsk.2 (skT_id hx), hk, hr, r_emit hD hc1, r_emit (D := upd (upd D (251 + nc) 0) 8 (nI (nc + 1))) (if_pos rfl) hc2]
      rfl
  · refine Or.inr ⟨upf (upf (rd g n (skT g n x) nu ec hs sc) 7 (-3)) 8 (nI (skT g n x)), upf (upf (rm n (teT g n (skT g n x)) dp ob ud sn) 5 (-3)) 6 (nI (skT g n x)), st, D, eE1 (by decide), fun e K he => ?_, fun e K he => ?_⟩
    · simp only [i42_0, i42_1, i42_3, i42_6, i42_50, i42_51, i42_54, i42_55, i42_58, i42_59, i42_60, i42_63, i42_66, i42_69, i42_70, i42_71, i42_72, i42_73, i42_76, i42_79, i42_80, in42, nl_i, nl_r, nl_0, nl_j, nb0, nb1, nbI, orv_s, konN_v, konN_n, konN_e, true_and, and_true, and_self, if_true, if_false, ite_true, ite_false, isR_ref, true_or, or_true, bI_T, bI_F, bI_Fb, i1z, Bool.false_eq_true, c_k, c_signIs hv hn c40, hsgf, c_f3, rd_3, hk, c_takeNumber hv hn hsk.2 h99, hr]
    · have h5 : ¬ (upf (upf (rm n (teT g n (skT g n x)) dp ob ud sn) 5 (-3)) 6 (nI (skT g n x))) 5 = 0 := (by decide : ¬ (-3 : Int32) = 0)
      simp only [i107_0, i107_1, i107_4, i107_7, i107_8, i107_9, i107_12, i107_13, i107_14, i107_16, i107_78, i107_79, i107_82, i107_85, i107_86, i107_129, i107_130, i107_131, i107_134, i107_135, i107_136, i107_139, i107_142, i107_145, i107_146, i107_147, i107_148, i107_149, i107_152, i107_153, i107_156, i107_157, i107_160, i107_161, i107_162, i107_165, in107, nl_i, nl_r, nl_0, nl_j, nb0, nb1, nbI, orv_s, konN_v, konN_n, konN_e, true_and, and_true, and_self, if_true, if_false, ite_true, ite_false, isR_ref, true_or, or_true, bI_T, bI_F, bI_Fb, i1z, Bool.false_eq_true, r_k, r_isGood, rm_5, r_next hg hn hx, b40, s_mDigit, hdg, le0m1, r_number hg hn hsk.2 (skT_id hx), hk, hr, r_emitB h5]
theorem j_fword (hv : bV (cB c) g n) (hg : rB c2 = g) (hn : n ≤ 700) {dp F x sc nc : Nat} {st D : Nat → Int32} {nu : Int32} (hdp : dp ≤ 4) (hx : x ≤ n) (hF : n - x < F + 1) (hsc : sc ≤ skT g n x) (hnc : 2 * nc + 1 ≤ 3 * skT g n x) (hD : D 8 = nI nc) (hsg : ¬ sgB g n (skT g n x) 40 = true) (hk : ¬ kdT g n (skT g n x) = 1) :
    jOk c c2 g n ec hs ob ud sn 42 107 5 (9 - 2 * dp) dp x sc nc st D nu ∨ jBad c c2 g n ec hs ob ud sn 42 107 5 dp x sc st D nu := by
  have hsk := skT_le (g := g) hx
  have c40 : (0 : Int32) ≤ 40 ∧ (40 : Int32) < 128 := by decide
  have q1 : (sgB g n (skT g n x) 40 = true) = (bA g n (skT g n x) = 40) := sg_iff (by decide)
  have b40 : ¬ bA g n (skT g n x) = 40 := fun z => hsg (q1.mpr z)
  have hsgf : sgB g n (skT g n x) 40 = false := Bool.eq_false_iff.mpr hsg
  have hdg : isDg (bA g n (skT g n x)) = false := Bool.eq_false_iff.mpr (fun z => hk (kd1_iff.mpr z))
  have hid := skT_id (g := g) hx
  have key : ∀ (k : Nat) (s w : Int32), k < 6 → wdB g n (skT g n x) k = true → ((s = -5 ∧ w = 0) ∨ (s = -6 ∧ w = 1) ∨ (s = -7 ∧ w = 2)) →
      (∀ e K, EvM (e + 5) 42 [.ref 13, .int (nI dp)] (cH c (rd g n (skT g n x) nu ec hs sc) st) K = Ev (e + 5) 42 142 [some (.ref 13), some (.int (nI dp))] [] (cH c (rd g n (skT g n x) nu ec hs (sc + 1)) (upd st sc s)) K) →
      (∀ e K, EvM (e + 5) 107 [.ref 140] (rH c2 (rm n x dp ob ud sn) D) K = Ev (e + 5) 107 129 [some (.ref 140), some (.int (bA g n (skT g n x))), none, none] [.int w] (rH c2 (rm n (skT g n x + lenJ.getD k 0) dp ob ud sn) D) K) →
      jOk c c2 g n ec hs ob ud sn 42 107 5 (9 - 2 * dp) dp x sc nc st D nu := fun k s w hk6 hw hsw kC kR => by
    have hl := lenJ_le k hk6
    have hte := (wdB_lt hw).2
    have ht := teT_le (g := g) hsk.2
    have hpn : skT g n x < n := kdT_in (g := g) (by rw [(wdB_lt hw).1]; decide)
    have hnx : nxT g n (skT g n x) = skT g n (skT g n x + lenJ.getD k 0) := by
      unfold nxT
      rw [hte]
    have hw0 : (0 ≤ w) = True := eq_true (by clear kC kR; rcases hsw with h | h | h <;> rw [h.2] <;> decide)
    have hc1 : nc < 1200 := by clear hsw; omega
    have hc2 : nc + 1 < 1200 := by clear hsw; omega
    refine ⟨skT g n x + lenJ.getD k 0, nu, [s], [1, w], by clear hsw; omega, by clear hsw; omega, gx_mono (gx_var hsw) (by clear hsw; omega), ?_, ?_, fun e K he => ?_, fun e K he => ?_⟩
    · show 1 ≤ _
      clear hsw
      omega
    · show 2 * 2 ≤ _
      clear hsw
      omega
    · rw [kC]
      simp only [i42_142, i42_143, i42_146, i42_147, nl_i, nl_r, nl_0, nl_j, nb0, nb1, nbI, orv_s, konN_v, konN_n, konN_e, true_and, and_true, and_self, if_true, if_false, ite_true, ite_false, isR_ref, true_or, or_true, bI_T, bI_F, bI_Fb, i1z, Bool.false_eq_true, c_k, c_tok hv hn hsk.2, hnx]
      rfl
    · rw [kR]
      simp only [i107_129, i107_130, i107_131, i107_134, i107_135, i107_136, i107_139, i107_142, i107_145, i107_146, i107_147, i107_148, i107_149, i107_152, i107_153, i107_156, i107_157, i107_160, i107_161, i107_162, i107_165, nl_i, nl_r, nl_0, nl_j, nb0, nb1, nbI, orv_s, konN_v, konN_n, konN_e, true_and, and_true, and_self, if_true, if_false, ite_true, ite_false, isR_ref, true_or, or_true, bI_T, bI_F, bI_Fb, i1z, Bool.false_eq_true, r_k, hw0, r_emit hD hc1, r_emit (D := upd (upd D (251 + nc) 1) 8 (nI (nc + 1))) (if_pos rfl) hc2]
      rfl
  have h46 : (4 : Nat) < 6 := by omega
  have h16 : (1 : Nat) < 6 := by omega
  have h56 : (5 : Nat) < 6 := by omega
  have tw4 := fun {d K} => r_takeWord (d := d) (K := K) (c := c2) (D := D) (dp := dp) (ob := ob) (ud := ud) (sn := sn) h46 hg hn hsk.2
  have tw1 := fun {d K} => r_takeWord (d := d) (K := K) (c := c2) (D := D) (dp := dp) (ob := ob) (ud := ud) (sn := sn) h16 hg hn hsk.2
  have tw5 := fun {d K} => r_takeWord (d := d) (K := K) (c := c2) (D := D) (dp := dp) (ob := ob) (ud := ud) (sn := sn) h56 hg hn hsk.2
  simp only [hid] at tw4 tw1 tw5
  by_cases w4 : wdB g n (skT g n x) 4 = true
  · have hpn : skT g n x < n := kdT_in (g := g) (by rw [(wdB_lt w4).1]; decide)
    have hs7 : sc < 700 := by omega
    refine Or.inl (key 4 (-5) 0 h46 w4 (by decide) (fun e K => ?_) (fun e K => ?_))
    · simp only [i42_0, i42_1, i42_3, i42_6, i42_50, i42_51, i42_54, i42_55, i42_81, i42_82, i42_84, i42_87, i42_90, i42_91, i42_93, i42_96, i42_99, i42_100, i42_102, i42_105, i42_108, i42_109, i42_111, i42_114, i42_117, i42_118, i42_120, i42_123, i42_126, i42_127, i42_129, i42_132, i42_135, i42_136, i42_138, i42_141, in42, nl_i, nl_r, nl_0, nl_j, nb0, nb1, nbI, orv_s, konN_v, konN_n, konN_e, true_and, and_true, and_self, if_true, if_false, ite_true, ite_false, isR_ref, true_or, or_true, bI_T, bI_F, bI_Fb, i1z, Bool.false_eq_true, c_k, c_signIs hv hn c40, hsgf, c_f3, rd_3, hk, c_wordIs h46 hv hn hsk.2, w4, c_putStep hs7]
    · simp only [i107_0, i107_1, i107_4, i107_7, i107_8, i107_9, i107_12, i107_13, i107_14, i107_16, i107_78, i107_79, i107_82, i107_85, i107_86, i107_89, i107_90, i107_92, i107_95, i107_98, i107_99, i107_102, i107_103, i107_105, i107_108, i107_111, i107_112, i107_115, i107_116, i107_118, i107_121, i107_124, i107_125, i107_128, in107, nl_i, nl_r, nl_0, nl_j, nb0, nb1, nbI, orv_s, konN_v, konN_n, konN_e, true_and, and_true, and_self, if_true, if_false, ite_true, ite_false, isR_ref, true_or, or_true, bI_T, bI_F, bI_Fb, i1z, Bool.false_eq_true, r_k, r_isGood, rm_5, r_next hg hn hx, b40, s_mDigit, hdg, tw4, w4]
  · have w4f : wdB g n (skT g n x) 4 = false := Bool.eq_false_iff.mpr w4
    by_cases w1 : wdB g n (skT g n x) 1 = true
    · have hpn : skT g n x < n := kdT_in (g := g) (by rw [(wdB_lt w1).1]; decide)
      have hs7 : sc < 700 := by omega
      refine Or.inl (key 1 (-6) 1 h16 w1 (by decide) (fun e K => ?_) (fun e K => ?_))
      · simp only [i42_0, i42_1, i42_3, i42_6, i42_50, i42_51, i42_54, i42_55, i42_81, i42_82, i42_84, i42_87, i42_90, i42_91, i42_93, i42_96, i42_99, i42_100, i42_102, i42_105, i42_108, i42_109, i42_111, i42_114, i42_117, i42_118, i42_120, i42_123, i42_126, i42_127, i42_129, i42_132, i42_135, i42_136, i42_138, i42_141, in42, nl_i, nl_r, nl_0, nl_j, nb0, nb1, nbI, orv_s, konN_v, konN_n, konN_e, true_and, and_true, and_self, if_true, if_false, ite_true, ite_false, isR_ref, true_or, or_true, bI_T, bI_F, bI_Fb, i1z, Bool.false_eq_true, c_k, c_signIs hv hn c40, hsgf, c_f3, rd_3, hk, c_wordIs h46 hv hn hsk.2, c_wordIs h16 hv hn hsk.2, w4f, w1, c_putStep hs7]
      · simp only [i107_0, i107_1, i107_4, i107_7, i107_8, i107_9, i107_12, i107_13, i107_14, i107_16, i107_78, i107_79, i107_82, i107_85, i107_86, i107_89, i107_90, i107_92, i107_95, i107_98, i107_99, i107_102, i107_103, i107_105, i107_108, i107_111, i107_112, i107_115, i107_116, i107_118, i107_121, i107_124, i107_125, i107_128, in107, nl_i, nl_r, nl_0, nl_j, nb0, nb1, nbI, orv_s, konN_v, konN_n, konN_e, true_and, and_true, and_self, if_true, if_false, ite_true, ite_false, isR_ref, true_or, or_true, bI_T, bI_F, bI_Fb, i1z, Bool.false_eq_true, r_k, r_isGood, rm_5, r_next hg hn hx, b40, s_mDigit, hdg, tw4, w4f, tw1, w1]
    · have w1f : wdB g n (skT g n x) 1 = false := Bool.eq_false_iff.mpr w1
      by_cases w5 : wdB g n (skT g n x) 5 = true
      · have hpn : skT g n x < n := kdT_in (g := g) (by rw [(wdB_lt w5).1]; decide)
        have hs7 : sc < 700 := by omega
        refine Or.inl (key 5 (-7) 2 h56 w5 (by decide) (fun e K => ?_) (fun e K => ?_))
        · simp only [i42_0, i42_1, i42_3, i42_6, i42_50, i42_51, i42_54, i42_55, i42_81, i42_82, i42_84, i42_87, i42_90, i42_91, i42_93, i42_96, i42_99, i42_100, i42_102, i42_105, i42_108, i42_109, i42_111, i42_114, i42_117, i42_118, i42_120, i42_123, i42_126, i42_127, i42_129, i42_132, i42_135, i42_136, i42_138, i42_141, in42, nl_i, nl_r, nl_0, nl_j, nb0, nb1, nbI, orv_s, konN_v, konN_n, konN_e, true_and, and_true, and_self, if_true, if_false, ite_true, ite_false, isR_ref, true_or, or_true, bI_T, bI_F, bI_Fb, i1z, Bool.false_eq_true, c_k, c_signIs hv hn c40, hsgf, c_f3, rd_3, hk, c_wordIs h46 hv hn hsk.2, c_wordIs h16 hv hn hsk.2, c_wordIs h56 hv hn hsk.2, w4f, w1f, w5, c_putStep hs7]
        · simp only [i107_0, i107_1, i107_4, i107_7, i107_8, i107_9, i107_12, i107_13, i107_14, i107_16, i107_78, i107_79, i107_82, i107_85, i107_86, i107_89, i107_90, i107_92, i107_95, i107_98, i107_99, i107_102, i107_103, i107_105, i107_108, i107_111, i107_112, i107_115, i107_116, i107_118, i107_121, i107_124, i107_125, i107_128, in107, nl_i, nl_r, nl_0, nl_j, nb0, nb1, nbI, orv_s, konN_v, konN_n, konN_e, true_and, and_true, and_self, if_true, if_false, ite_true, ite_false, isR_ref, true_or, or_true, bI_T, bI_F, bI_Fb, i1z, Bool.false_eq_true, r_k, r_isGood, rm_5, r_next hg hn hx, b40, s_mDigit, hdg, tw4, w4f, tw1, w1f, tw5, w5]
      · have w5f : wdB g n (skT g n x) 5 = false := Bool.eq_false_iff.mpr w5
        refine Or.inr ⟨upf (upf (rd g n (skT g n x) nu ec hs sc) 7 (-2)) 8 (nI (skT g n x)), upf (upf (rm n (skT g n x) dp ob ud sn) 5 (-2)) 6 (nI (skT g n x)), st, D, eE1 (by decide), fun e K he => ?_, fun e K he => ?_⟩
        · simp only [i42_0, i42_1, i42_3, i42_6, i42_50, i42_51, i42_54, i42_55, i42_81, i42_82, i42_84, i42_87, i42_90, i42_91, i42_93, i42_96, i42_99, i42_100, i42_102, i42_105, i42_108, i42_109, i42_111, i42_114, i42_117, i42_118, i42_120, i42_123, i42_126, i42_127, i42_129, i42_132, i42_135, i42_136, i42_138, i42_141, in42, nl_i, nl_r, nl_0, nl_j, nb0, nb1, nbI, orv_s, konN_v, konN_n, konN_e, true_and, and_true, and_self, if_true, if_false, ite_true, ite_false, isR_ref, true_or, or_true, bI_T, bI_F, bI_Fb, i1z, Bool.false_eq_true, c_k, c_signIs hv hn c40, hsgf, c_f3, rd_3, hk, c_wordIs h46 hv hn hsk.2, c_wordIs h16 hv hn hsk.2, c_wordIs h56 hv hn hsk.2, w4f, w1f, w5f, c_fail, rd_4]
        · have h5 : ¬ (upf (upf (rm n (skT g n x) dp ob ud sn) 5 (-2)) 6 (nI (skT g n x))) 5 = 0 := (by decide : ¬ (-2 : Int32) = 0)
          simp only [i107_0, i107_1, i107_4, i107_7, i107_8, i107_9, i107_12, i107_13, i107_14, i107_16, i107_78, i107_79, i107_82, i107_85, i107_86, i107_89, i107_90, i107_92, i107_95, i107_98, i107_99, i107_102, i107_103, i107_105, i107_108, i107_111, i107_112, i107_115, i107_116, i107_118, i107_121, i107_124, i107_125, i107_128, i107_129, i107_130, i107_131, i107_134, i107_135, i107_136, i107_139, i107_142, i107_145, i107_146, i107_147, i107_148, i107_149, i107_152, i107_153, i107_156, i107_157, i107_160, i107_161, i107_162, i107_165, in107, nl_i, nl_r, nl_0, nl_j, nb0, nb1, nbI, orv_s, konN_v, konN_n, konN_e, true_and, and_true, and_self, if_true, if_false, ite_true, ite_false, isR_ref, true_or, or_true, bI_T, bI_F, bI_Fb, i1z, Bool.false_eq_true, r_k, r_isGood, rm_5, r_next hg hn hx, b40, s_mDigit, hdg, tw4, w4f, tw1, w1f, tw5, w5f, le0m1, r_number hg hn hsk.2 hid, hk, r_emitB h5]
theorem j_factor (hv : bV (cB c) g n) (hg : rB c2 = g) (hn : n ≤ 700) {dp F : Nat} (hdp : dp ≤ 4) (hS : dp < 4 → jS c c2 g n ec hs ob ud sn 40 109 7 (9 - 2 * (dp + 1) + 1 + 1) (dp + 1) F) : jS c c2 g n ec hs ob ud sn 42 107 5 (9 - 2 * dp) dp (F + 1) := by
  intro x sc nc st D nu hx hF hsc hnc hD
  by_cases h1 : sgB g n (skT g n x) 40 = true
  · exact j_fparen hv hg hn hdp hS hx hF hsc hnc hD h1
  · by_cases h2 : kdT g n (skT g n x) = 1
    · exact j_fnum hv hg hn hdp hx hF hsc hnc hD h1 h2
    · exact j_fword hv hg hn hdp hx hF hsc hnc hD h1 h2
theorem j_all (hv : bV (cB c) g n) (hg : rB c2 = g) (hn : n ≤ 700) : ∀ F dp, dp ≤ 4 → jS c c2 g n ec hs ob ud sn 40 109 7 (9 - 2 * dp + 1 + 1) dp F
  | 0, dp, hdp => fun x sc nc st D nu hx hF _ _ _ => absurd hF (Nat.not_lt_zero _)
  | F + 1, dp, hdp => j_sum hv hg hn (by omega) (j_term hv hg hn (by omega) (j_factor hv hg hn hdp (fun h => j_all hv hg hn F (dp + 1) h)))
end JF
