/-! THE CONSTRUCTORS: a line -/
def lnH (h : AH) (b g : Nat) : AH := wF (alA (wF (alA (wF (alA (wF (alA (wF (alA (wF (alA (wF (alA (wF (alA (wF (alA (wF (alA (wF (wF h b 0 (.ref g)) b 3 (.int (-1))) 10 6) b 5 (.ref (b + 1))) 10 6) b 6 (.ref (b + 2))) 10 6) b 7 (.ref (b + 3))) 10 20) b 8 (.ref (b + 4))) 10 20) b 9 (.ref (b + 5))) 10 20) b 10 (.ref (b + 6))) 10 20) b 11 (.ref (b + 7))) 10 20) b 12 (.ref (b + 8))) 10 20) b 13 (.ref (b + 9))) 10 20) b 14 (.ref (b + 10))
section LI
variable {d b g : Nat} {h : AH} {K : AO → AH → Prop}
theorem s_lineInit (hs : hN h = b + 1) (hk3 : hk h b = 3) : EvM (d + 1) 6 [.ref b, .ref g] h K = K (.inl none) (lnH h b g) := by
  have b6 : ((6 : Int32) < 0) = False := eq_false (by decide)
  have b20 : ((20 : Int32) < 0) = False := eq_false (by decide)
  simp only [in6, i6_0, i6_1, i6_4, i6_5, i6_6, i6_9, i6_10, i6_11, i6_14, i6_15, i6_17, i6_19, i6_22, i6_23, i6_25, i6_27, i6_30, i6_31, i6_33, i6_35, i6_38, i6_39, i6_41, i6_43, i6_46, i6_47, i6_49, i6_51, i6_54, i6_55, i6_57, i6_59, i6_62, i6_63, i6_65, i6_67, i6_70, i6_71, i6_73, i6_75, i6_78, i6_79, i6_81, i6_83, i6_86, i6_87, i6_89, i6_91, i6_94, nl_i, nl_r, nl_0, nl_j, nb0, nb1, nbI, orv_s, konN_v, konN_n, konN_e, true_and, and_true, and_self, if_true, if_false, ite_true, ite_false, isR_ref, true_or, or_true, isR_null, rg10, rg11, rg12, rg13, rg14, rg15, rg16, rh13, rh14, rh15, rh16, bI_T, bI_F, bI_Fb, i1z, Bool.false_eq_true, zn_6, zn_20, b6, b20, show (60000000 < 6) = False from eq_false (by decide), show (60000000 < 20) = False from eq_false (by decide), or_false, not_false_eq_true, hk3, hs, oN_O, oN_A, oN_F, oN_W, ok_O, ok_A, ok_F, ok_W, ol_O, ol_A, ol_F, ol_W, of_O, of_A, of_F, of_W, oa_O, oa_A, oa_F, oa_W, false_and, and_false, Nat.add_assoc, Nat.reduceAdd, Nat.reduceEqDiff, Nat.reduceLT, Nat.reduceLeDiff, sne_0_1, sne_0_2, sne_0_3, sne_0_4, sne_0_5, sne_0_6, sne_0_7, sne_0_8, sne_0_9, sne_0_10, sne_0_11, sne_1_0, sne_1_2, sne_1_3, sne_1_4, sne_1_5, sne_1_6, sne_1_7, sne_1_8, sne_1_9, sne_1_10, sne_1_11, sne_2_0, sne_2_1, sne_2_3, sne_2_4, sne_2_5, sne_2_6, sne_2_7, sne_2_8, sne_2_9, sne_2_10, sne_2_11, sne_3_0, sne_3_1, sne_3_2, sne_3_4, sne_3_5, sne_3_6, sne_3_7, sne_3_8, sne_3_9, sne_3_10, sne_3_11, sne_4_0, sne_4_1, sne_4_2, sne_4_3, sne_4_5, sne_4_6, sne_4_7, sne_4_8, sne_4_9, sne_4_10, sne_4_11, sne_5_0, sne_5_1, sne_5_2, sne_5_3, sne_5_4, sne_5_6, sne_5_7, sne_5_8, sne_5_9, sne_5_10, sne_5_11, sne_6_0, sne_6_1, sne_6_2, sne_6_3, sne_6_4, sne_6_5, sne_6_7, sne_6_8, sne_6_9, sne_6_10, sne_6_11, sne_7_0, sne_7_1, sne_7_2, sne_7_3, sne_7_4, sne_7_5, sne_7_6, sne_7_8, sne_7_9, sne_7_10, sne_7_11, sne_8_0, sne_8_1, sne_8_2, sne_8_3, sne_8_4, sne_8_5, sne_8_6, sne_8_7, sne_8_9, sne_8_10, sne_8_11, sne_9_0, sne_9_1, sne_9_2, sne_9_3, sne_9_4, sne_9_5, sne_9_6, sne_9_7, sne_9_8, sne_9_10, sne_9_11, sne_10_0, sne_10_1, sne_10_2, sne_10_3, sne_10_4, sne_10_5, sne_10_6, sne_10_7, sne_10_8, sne_10_9, sne_10_11, sne_11_0, sne_11_1, sne_11_2, sne_11_3, sne_11_4, sne_11_5, sne_11_6, sne_11_7, sne_11_8, sne_11_9, sne_11_10, oS_O, oS_A, oS_F, oS_W, oX_O, oX_A, oX_F, oX_W, if_true, if_false, true_and, and_true, and_self]
  rfl
theorem ln_N : hN (lnH h b g) = hN h + 10 := rfl
theorem ln_fr (hs : hN h = b + 1) : fr b h (lnH h b g) := by
  unfold lnH
  exact fr_tr (fr_tr (fr_tr (fr_tr (fr_tr (fr_tr (fr_tr (fr_tr (fr_tr (fr_tr (fr_tr (fr_tr (fr_tr (fr_tr (fr_tr (fr_tr (fr_tr (fr_tr (fr_tr (fr_tr (fr_tr (fr_tr ((fr_id : fr b h h)) (fr_wF (N := b) (Nat.le_refl _)) (Nat.le_refl _)) (fr_wF (N := b) (Nat.le_refl _)) (Nat.le_refl _)) (fr_alA (N := b) (by simp only [oN_F, oN_A, hs, Nat.add_assoc, Nat.reduceAdd]; omega)) (Nat.le_refl _)) (fr_wF (N := b) (Nat.le_refl _)) (Nat.le_refl _)) (fr_alA (N := b) (by simp only [oN_F, oN_A, hs, Nat.add_assoc, Nat.reduceAdd]; omega)) (Nat.le_refl _)) (fr_wF (N := b) (Nat.le_refl _)) (Nat.le_refl _)) (fr_alA (N := b) (by simp only [oN_F, oN_A, hs, Nat.add_assoc, Nat.reduceAdd]; omega)) (Nat.le_refl _)) (fr_wF (N := b) (Nat.le_refl _)) (Nat.le_refl _)) (fr_alA (N := b) (by simp only [oN_F, oN_A, hs, Nat.add_assoc, Nat.reduceAdd]; omega)) (Nat.le_refl _)) (fr_wF (N := b) (Nat.le_refl _)) (Nat.le_refl _)) (fr_alA (N := b) (by simp only [oN_F, oN_A, hs, Nat.add_assoc, Nat.reduceAdd]; omega)) (Nat.le_refl _)) (fr_wF (N := b) (Nat.le_refl _)) (Nat.le_refl _)) (fr_alA (N := b) (by simp only [oN_F, oN_A, hs, Nat.add_assoc, Nat.reduceAdd]; omega)) (Nat.le_refl _)) (fr_wF (N := b) (Nat.le_refl _)) (Nat.le_refl _)) (fr_alA (N := b) (by simp only [oN_F, oN_A, hs, Nat.add_assoc, Nat.reduceAdd]; omega)) (Nat.le_refl _)) (fr_wF (N := b) (Nat.le_refl _)) (Nat.le_refl _)) (fr_alA (N := b) (by simp only [oN_F, oN_A, hs, Nat.add_assoc, Nat.reduceAdd]; omega)) (Nat.le_refl _)) (fr_wF (N := b) (Nat.le_refl _)) (Nat.le_refl _)) (fr_alA (N := b) (by simp only [oN_F, oN_A, hs, Nat.add_assoc, Nat.reduceAdd]; omega)) (Nat.le_refl _)) (fr_wF (N := b) (Nat.le_refl _)) (Nat.le_refl _)) (fr_alA (N := b) (by simp only [oN_F, oN_A, hs, Nat.add_assoc, Nat.reduceAdd]; omega)) (Nat.le_refl _)) (fr_wF (N := b) (Nat.le_refl _)) (Nat.le_refl _)
theorem ln_k (hs : hN h = b + 1) : hk (lnH h b g) b = hk h b := by
  unfold lnH
  simp only [hs, oN_O, oN_A, oN_F, oN_W, ok_O, ok_A, ok_F, ok_W, ol_O, ol_A, ol_F, ol_W, of_O, of_A, of_F, of_W, oa_O, oa_A, oa_F, oa_W, false_and, and_false, Nat.add_assoc, Nat.reduceAdd, Nat.reduceEqDiff, Nat.reduceLT, Nat.reduceLeDiff, sne_0_1, sne_0_2, sne_0_3, sne_0_4, sne_0_5, sne_0_6, sne_0_7, sne_0_8, sne_0_9, sne_0_10, sne_0_11, sne_1_0, sne_1_2, sne_1_3, sne_1_4, sne_1_5, sne_1_6, sne_1_7, sne_1_8, sne_1_9, sne_1_10, sne_1_11, sne_2_0, sne_2_1, sne_2_3, sne_2_4, sne_2_5, sne_2_6, sne_2_7, sne_2_8, sne_2_9, sne_2_10, sne_2_11, sne_3_0, sne_3_1, sne_3_2, sne_3_4, sne_3_5, sne_3_6, sne_3_7, sne_3_8, sne_3_9, sne_3_10, sne_3_11, sne_4_0, sne_4_1, sne_4_2, sne_4_3, sne_4_5, sne_4_6, sne_4_7, sne_4_8, sne_4_9, sne_4_10, sne_4_11, sne_5_0, sne_5_1, sne_5_2, sne_5_3, sne_5_4, sne_5_6, sne_5_7, sne_5_8, sne_5_9, sne_5_10, sne_5_11, sne_6_0, sne_6_1, sne_6_2, sne_6_3, sne_6_4, sne_6_5, sne_6_7, sne_6_8, sne_6_9, sne_6_10, sne_6_11, sne_7_0, sne_7_1, sne_7_2, sne_7_3, sne_7_4, sne_7_5, sne_7_6, sne_7_8, sne_7_9, sne_7_10, sne_7_11, sne_8_0, sne_8_1, sne_8_2, sne_8_3, sne_8_4, sne_8_5, sne_8_6, sne_8_7, sne_8_9, sne_8_10, sne_8_11, sne_9_0, sne_9_1, sne_9_2, sne_9_3, sne_9_4, sne_9_5, sne_9_6, sne_9_7, sne_9_8, sne_9_10, sne_9_11, sne_10_0, sne_10_1, sne_10_2, sne_10_3, sne_10_4, sne_10_5, sne_10_6, sne_10_7, sne_10_8, sne_10_9, sne_10_11, sne_11_0, sne_11_1, sne_11_2, sne_11_3, sne_11_4, sne_11_5, sne_11_6, sne_11_7, sne_11_8, sne_11_9, sne_11_10, oS_O, oS_A, oS_F, oS_W, oX_O, oX_A, oX_F, oX_W, if_true, if_false, true_and, and_true, and_self]
end LI
/-! a reader -/
def rdM (h : AH) (r : Nat) : AH := alO (wF (wF (alA (wF (alA h 11 700) r 0 (.ref (r + 1))) 10 700) r 11 (.ref (r + 2))) r 8 (.int (-1))) 4 11 (dfl 3)
def rdH (h : AH) (r : Nat) : AH := wF (newSetup (rdM h r) (r + 3)) r 9 (.ref (r + 3))
section RI
variable {d r : Nat} {h : AH} {K : AO → AH → Prop}
theorem s_readerInit (hs : hN h = r + 1) (hk5 : hk h r = 5) : EvM (d + 3) 31 [.ref r] h K = K (.inl none) (rdH h r) := by
  have b7 : ((700 : Int32) < 0) = False := eq_false (by decide)
  have z7 : Int32.toNatClampNeg 700 = 700 := by decide
  have mN : hN (rdM h r) = r + 3 + 1 := by
    unfold rdM
    show hN h + 1 + 1 + 1 = r + 3 + 1
    omega
  have mk : hk (rdM h r) (r + 3) = 4 := by
    unfold rdM
    simp only [hs, oN_O, oN_A, oN_F, oN_W, ok_O, ok_A, ok_F, ok_W, ol_O, ol_A, ol_F, ol_W, of_O, of_A, of_F, of_W, oa_O, oa_A, oa_F, oa_W, false_and, and_false, Nat.add_assoc, Nat.reduceAdd, Nat.reduceEqDiff, Nat.reduceLT, Nat.reduceLeDiff, sne_0_1, sne_0_2, sne_0_3, sne_0_4, sne_0_5, sne_0_6, sne_0_7, sne_0_8, sne_0_9, sne_0_10, sne_0_11, sne_1_0, sne_1_2, sne_1_3, sne_1_4, sne_1_5, sne_1_6, sne_1_7, sne_1_8, sne_1_9, sne_1_10, sne_1_11, sne_2_0, sne_2_1, sne_2_3, sne_2_4, sne_2_5, sne_2_6, sne_2_7, sne_2_8, sne_2_9, sne_2_10, sne_2_11, sne_3_0, sne_3_1, sne_3_2, sne_3_4, sne_3_5, sne_3_6, sne_3_7, sne_3_8, sne_3_9, sne_3_10, sne_3_11, sne_4_0, sne_4_1, sne_4_2, sne_4_3, sne_4_5, sne_4_6, sne_4_7, sne_4_8, sne_4_9, sne_4_10, sne_4_11, sne_5_0, sne_5_1, sne_5_2, sne_5_3, sne_5_4, sne_5_6, sne_5_7, sne_5_8, sne_5_9, sne_5_10, sne_5_11, sne_6_0, sne_6_1, sne_6_2, sne_6_3, sne_6_4, sne_6_5, sne_6_7, sne_6_8, sne_6_9, sne_6_10, sne_6_11, sne_7_0, sne_7_1, sne_7_2, sne_7_3, sne_7_4, sne_7_5, sne_7_6, sne_7_8, sne_7_9, sne_7_10, sne_7_11, sne_8_0, sne_8_1, sne_8_2, sne_8_3, sne_8_4, sne_8_5, sne_8_6, sne_8_7, sne_8_9, sne_8_10, sne_8_11, sne_9_0, sne_9_1, sne_9_2, sne_9_3, sne_9_4, sne_9_5, sne_9_6, sne_9_7, sne_9_8, sne_9_10, sne_9_11, sne_10_0, sne_10_1, sne_10_2, sne_10_3, sne_10_4, sne_10_5, sne_10_6, sne_10_7, sne_10_8, sne_10_9, sne_10_11, sne_11_0, sne_11_1, sne_11_2, sne_11_3, sne_11_4, sne_11_5, sne_11_6, sne_11_7, sne_11_8, sne_11_9, sne_11_10, oS_O, oS_A, oS_F, oS_W, oX_O, oX_A, oX_F, oX_W, if_true, if_false, true_and, and_true, and_self]
  have mk5 : hk (rdM h r) r = 5 := by
    unfold rdM
    simp only [hs, hk5, oN_O, oN_A, oN_F, oN_W, ok_O, ok_A, ok_F, ok_W, ol_O, ol_A, ol_F, ol_W, of_O, of_A, of_F, of_W, oa_O, oa_A, oa_F, oa_W, false_and, and_false, Nat.add_assoc, Nat.reduceAdd, Nat.reduceEqDiff, Nat.reduceLT, Nat.reduceLeDiff, sne_0_1, sne_0_2, sne_0_3, sne_0_4, sne_0_5, sne_0_6, sne_0_7, sne_0_8, sne_0_9, sne_0_10, sne_0_11, sne_1_0, sne_1_2, sne_1_3, sne_1_4, sne_1_5, sne_1_6, sne_1_7, sne_1_8, sne_1_9, sne_1_10, sne_1_11, sne_2_0, sne_2_1, sne_2_3, sne_2_4, sne_2_5, sne_2_6, sne_2_7, sne_2_8, sne_2_9, sne_2_10, sne_2_11, sne_3_0, sne_3_1, sne_3_2, sne_3_4, sne_3_5, sne_3_6, sne_3_7, sne_3_8, sne_3_9, sne_3_10, sne_3_11, sne_4_0, sne_4_1, sne_4_2, sne_4_3, sne_4_5, sne_4_6, sne_4_7, sne_4_8, sne_4_9, sne_4_10, sne_4_11, sne_5_0, sne_5_1, sne_5_2, sne_5_3, sne_5_4, sne_5_6, sne_5_7, sne_5_8, sne_5_9, sne_5_10, sne_5_11, sne_6_0, sne_6_1, sne_6_2, sne_6_3, sne_6_4, sne_6_5, sne_6_7, sne_6_8, sne_6_9, sne_6_10, sne_6_11, sne_7_0, sne_7_1, sne_7_2, sne_7_3, sne_7_4, sne_7_5, sne_7_6, sne_7_8, sne_7_9, sne_7_10, sne_7_11, sne_8_0, sne_8_1, sne_8_2, sne_8_3, sne_8_4, sne_8_5, sne_8_6, sne_8_7, sne_8_9, sne_8_10, sne_8_11, sne_9_0, sne_9_1, sne_9_2, sne_9_3, sne_9_4, sne_9_5, sne_9_6, sne_9_7, sne_9_8, sne_9_10, sne_9_11, sne_10_0, sne_10_1, sne_10_2, sne_10_3, sne_10_4, sne_10_5, sne_10_6, sne_10_7, sne_10_8, sne_10_9, sne_10_11, sne_11_0, sne_11_1, sne_11_2, sne_11_3, sne_11_4, sne_11_5, sne_11_6, sne_11_7, sne_11_8, sne_11_9, sne_11_10, oS_O, oS_A, oS_F, oS_W, oX_O, oX_A, oX_F, oX_W, if_true, if_false, true_and, and_true, and_self]
  have nk5 : hk (newSetup (rdM h r) (r + 3)) r = 5 := (fr_k (np_fr mN) (by omega)).trans mk5
  have si := fun K => s_setupInit (d := d) (K := K) mN mk
  unfold rdM at si nk5
  simp only [in31, i31_0, i31_1, i31_4, i31_5, i31_8, i31_10, i31_13, i31_14, i31_17, i31_19, i31_22, i31_23, i31_24, i31_27, i31_28, i31_31, i31_32, i31_35, i31_38, nl_i, nl_r, nl_0, nl_j, nb0, nb1, nbI, orv_s, konN_v, konN_n, konN_e, true_and, and_true, and_self, if_true, if_false, ite_true, ite_false, isR_ref, true_or, or_true, isR_null, rg10, rg11, rg12, rg13, rg14, rg15, rg16, rh13, rh14, rh15, rh16, bI_T, bI_F, bI_Fb, i1z, Bool.false_eq_true, z7, b7, show (60000000 < 700) = False from eq_false (by decide), or_false, not_false_eq_true, hk5, hs, si, nk5, oN_O, oN_A, oN_F, oN_W, ok_O, ok_A, ok_F, ok_W, ol_O, ol_A, ol_F, ol_W, of_O, of_A, of_F, of_W, oa_O, oa_A, oa_F, oa_W, false_and, and_false, Nat.add_assoc, Nat.reduceAdd, Nat.reduceEqDiff, Nat.reduceLT, Nat.reduceLeDiff, sne_0_1, sne_0_2, sne_0_3, sne_0_4, sne_0_5, sne_0_6, sne_0_7, sne_0_8, sne_0_9, sne_0_10, sne_0_11, sne_1_0, sne_1_2, sne_1_3, sne_1_4, sne_1_5, sne_1_6, sne_1_7, sne_1_8, sne_1_9, sne_1_10, sne_1_11, sne_2_0, sne_2_1, sne_2_3, sne_2_4, sne_2_5, sne_2_6, sne_2_7, sne_2_8, sne_2_9, sne_2_10, sne_2_11, sne_3_0, sne_3_1, sne_3_2, sne_3_4, sne_3_5, sne_3_6, sne_3_7, sne_3_8, sne_3_9, sne_3_10, sne_3_11, sne_4_0, sne_4_1, sne_4_2, sne_4_3, sne_4_5, sne_4_6, sne_4_7, sne_4_8, sne_4_9, sne_4_10, sne_4_11, sne_5_0, sne_5_1, sne_5_2, sne_5_3, sne_5_4, sne_5_6, sne_5_7, sne_5_8, sne_5_9, sne_5_10, sne_5_11, sne_6_0, sne_6_1, sne_6_2, sne_6_3, sne_6_4, sne_6_5, sne_6_7, sne_6_8, sne_6_9, sne_6_10, sne_6_11, sne_7_0, sne_7_1, sne_7_2, sne_7_3, sne_7_4, sne_7_5, sne_7_6, sne_7_8, sne_7_9, sne_7_10, sne_7_11, sne_8_0, sne_8_1, sne_8_2, sne_8_3, sne_8_4, sne_8_5, sne_8_6, sne_8_7, sne_8_9, sne_8_10, sne_8_11, sne_9_0, sne_9_1, sne_9_2, sne_9_3, sne_9_4, sne_9_5, sne_9_6, sne_9_7, sne_9_8, sne_9_10, sne_9_11, sne_10_0, sne_10_1, sne_10_2, sne_10_3, sne_10_4, sne_10_5, sne_10_6, sne_10_7, sne_10_8, sne_10_9, sne_10_11, sne_11_0, sne_11_1, sne_11_2, sne_11_3, sne_11_4, sne_11_5, sne_11_6, sne_11_7, sne_11_8, sne_11_9, sne_11_10, oS_O, oS_A, oS_F, oS_W, oX_O, oX_A, oX_F, oX_W, if_true, if_false, true_and, and_true, and_self]
  rfl
end RI
/-! a history -/
def hiS (y g k : Nat) (m : AH) : AH := wR (lnH (alO m 3 15 (dfl 2)) (y + 2 + 11 * k) g) (y + 1) (va_up (hR (lnH (alO m 3 15 (dfl 2)) (y + 2 + 11 * k) g) (y + 1)) k (some (y + 2 + 11 * k)))
def hi0 (h : AH) (y : Nat) : AH := wF (alA h 13 8) y 0 (.ref (y + 1))
def hiH (h : AH) (y g : Nat) : AH := itn (hiS y g) 0 8 (hi0 h y)
def hiI (y k : Nat) (m : AH) : Prop := hN m = y + 2 + 11 * k ∧ hk m y = 2 ∧ hF m y 0 = .ref (y + 1) ∧ hk m (y + 1) = 13 ∧ hl m (y + 1) = 8
section HII
variable {d y g : Nat} {h : AH} {K : AO → AH → Prop}
theorem hiS_I {k : Nat} {m : AH} (hI : hiI y k m) : hiI y (k + 1) (hiS y g k m) := by
  obtain ⟨a1, a2, a3, a4, a5⟩ := hI
  have e : hN (alO m 3 15 (dfl 2)) = y + 2 + 11 * k + 1 := by
    show hN m + 1 = _
    omega
  have f : fr (y + 2 + 11 * k) m (lnH (alO m 3 15 (dfl 2)) (y + 2 + 11 * k) g) := fr_tr (fr_alO (by omega)) (ln_fr e) (Nat.le_refl _)
  refine ⟨?_, (fr_k f (by omega)).trans a2, (fr_f f (by omega)).trans a3, (fr_k f (by omega)).trans a4, (fr_l f (by omega)).trans a5⟩
  show hN m + 1 + 10 = y + 2 + 11 * (k + 1)
  omega
theorem s_histLoop : ∀ n k (m : AH), k + n = 8 → hiI y k m → Ev (d + 2) 3 15 [some (.ref y), some (.ref g), some (.int (nI k))] [] m K = K (.inl none) (itn (hiS y g) k n m)
  | 0, k, m, hk8, hI => by
    obtain rfl : k = 8 := by omega
    rw [i3_15]
    simp only [i3_16, i3_18, i3_21, i3_22, i3_25, i3_26, i3_29, i3_30, i3_31, i3_34, i3_35, i3_38, i3_41, nl_i, nl_r, nl_0, nl_j, nb0, nb1, nbI, orv_s, konN_v, konN_n, konN_e, true_and, and_true, and_self, if_true, if_false, ite_true, ite_false, isR_ref, true_or, or_true, isR_null, rg10, rg11, rg12, rg13, rg14, rg15, rg16, rh13, rh14, rh15, rh16, bI_T, bI_F, bI_Fb, i1z, Bool.false_eq_true, show ((8 : Int32) ≤ nI 8) = True from eq_true (by decide), itn]
  | n + 1, k, m, hk8, hI => by
    have ih := s_histLoop n (k + 1) (hiS y g k m) (by omega) (hiS_I hI)
    obtain ⟨a1, a2, a3, a4, a5⟩ := hI
    have e : hN (alO m 3 15 (dfl 2)) = y + 2 + 11 * k + 1 := by
      show hN m + 1 = _
      omega
    have k3 : hk (alO m 3 15 (dfl 2)) (y + 2 + 11 * k) = 3 := by
      rw [ok_O, if_pos a1.symm]
    have f : fr (y + 2 + 11 * k) m (lnH (alO m 3 15 (dfl 2)) (y + 2 + 11 * k) g) := fr_tr (fr_alO (by omega)) (ln_fr e) (Nat.le_refl _)
    have li := fun K => s_lineInit (d := d) (g := g) (K := K) e k3
    have x1 : hk (lnH (alO m 3 15 (dfl 2)) (y + 2 + 11 * k) g) (y + 1) = 13 := (fr_k f (by omega)).trans a4
    have x2 : hl (lnH (alO m 3 15 (dfl 2)) (y + 2 + 11 * k) g) (y + 1) = 8 := (fr_l f (by omega)).trans a5
    have x3 : hk (lnH (alO m 3 15 (dfl 2)) (y + 2 + 11 * k) g) (y + 2 + 11 * k) = 3 := (ln_k e).trans k3
    have hle : ((8 : Int32) ≤ nI k) = False := eq_false (fun z => by
      have := (nI_leI (a := 8) (b := k) (by omega) (by omega)).mp z
      omega)
    rw [i3_15]
    simp only [i3_16, i3_18, i3_21, i3_22, i3_25, i3_26, i3_29, i3_30, i3_31, i3_34, i3_35, i3_38, nl_i, nl_r, nl_0, nl_j, nb0, nb1, nbI, orv_s, konN_v, konN_n, konN_e, true_and, and_true, and_self, if_true, if_false, ite_true, ite_false, isR_ref, true_or, or_true, isR_null, rg10, rg11, rg12, rg13, rg14, rg15, rg16, rh13, rh14, rh15, rh16, bI_T, bI_F, bI_Fb, i1z, Bool.false_eq_true, hle, a1, a2, a3, k3, li, x1, x2, x3, inbT (show k < 8 by omega) (show 8 < 2 ^ 31 by omega), zn_nI (show k < 2 ^ 31 by omega), nI_1]
    rw [itn, ← ih]
    rfl
theorem s_histInit (hs : hN h = y + 1) (hk2 : hk h y = 2) : EvM (d + 2) 3 [.ref y, .ref g] h K = K (.inl none) (hiH h y g) := by
  have z8 : Int32.toNatClampNeg 8 = 8 := by decide
  have b8 : ((8 : Int32) < 0) = False := eq_false (by decide)
  have k1 : hk (alA h 13 8) y = 2 := by
    rw [ok_A, if_neg (by omega)]
    exact hk2
  have hI : hiI y 0 (hi0 h y) := by
    refine ⟨?_, k1, if_pos ⟨rfl, rfl⟩, ?_, ?_⟩
    · show hN h + 1 = y + 2 + 11 * 0
      omega
    · show hk (alA h 13 8) (y + 1) = 13
      rw [ok_A, if_pos hs.symm]
    · show hl (alA h 13 8) (y + 1) = 8
      rw [ol_A, if_pos hs.symm]
  have lp := s_histLoop (d := d) (g := g) (K := K) 8 0 (hi0 h y) (by omega) hI
  rw [nI_0] at lp
  unfold hi0 at lp
  rw [← hs] at lp
  simp only [i3_0, i3_1, i3_4, i3_5, i3_7, i3_10, i3_13, i3_14, in3, nl_i, nl_r, nl_0, nl_j, nb0, nb1, nbI, orv_s, konN_v, konN_n, konN_e, true_and, and_true, and_self, if_true, if_false, ite_true, ite_false, isR_ref, true_or, or_true, isR_null, rg10, rg11, rg12, rg13, rg14, rg15, rg16, rh13, rh14, rh15, rh16, bI_T, bI_F, bI_Fb, i1z, Bool.false_eq_true, z8, b8, show (60000000 < 8) = False from eq_false (by decide), or_false, not_false_eq_true, k1, lp]
  unfold hiH hi0
  rw [hs]
theorem hi_fr : ∀ n k (m : AH), hiI y k m → fr y m (itn (hiS y g) k n m)
  | 0, k, m, hI => fr_id
  | n + 1, k, m, hI => by
    have e : hN (alO m 3 15 (dfl 2)) = y + 2 + 11 * k + 1 := by
      have := hI.1
      show hN m + 1 = _
      omega
    have f : fr (y + 2 + 11 * k) m (lnH (alO m 3 15 (dfl 2)) (y + 2 + 11 * k) g) := fr_tr (fr_alO (by have := hI.1; omega)) (ln_fr e) (Nat.le_refl _)
    have f2 : fr y m (hiS y g k m) := fun i hi => fr_le f (by omega) i hi
    exact fr_tr f2 (hi_fr n (k + 1) (hiS y g k m) (hiS_I hI)) (Nat.le_refl _)
end HII
