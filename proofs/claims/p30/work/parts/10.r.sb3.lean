/-! A BUILDER: append of a number -/
theorem byte1 : ∀ c, c < 128 → (nI c).toInt8.toInt32 = nI c := by decide +kernel
theorem ng_t {n : Nat} (hn : n < 2 ^ 31) : (-nI n).toInt = -(n : Int) := by
  rw [Int32.toInt_neg, nI_toInt hn]
  exact Int.bmod_eq_of_le (by omega) (by omega)
theorem ng_100 {n : Nat} (hn : n < 2 ^ 31) : ((-100 : Int32) < -nI n) = (n < 100) := by
  rw [i32_lt, ng_t hn]
  show ((-100 : Int) < -(n : Int)) = _
  exact propext ⟨fun _ => by omega, fun _ => by omega⟩
theorem ng_9 {n : Nat} (hn : n < 2 ^ 31) : ((-9 : Int32) ≤ -nI n) = (n ≤ 9) := by
  rw [i32_le, ng_t hn]
  show ((-9 : Int) ≤ -(n : Int)) = _
  exact propext ⟨fun _ => by omega, fun _ => by omega⟩
theorem ng_div {n : Nat} (hn : n < 1000) : -nI n / 100 = -nI (n / 100) := by
  refine Int32.toInt_inj.mp ?_
  rw [Int32.toInt_div, ng_t (by omega), ng_t (by omega)]
  show Int.bmod (Int.tdiv (-(n : Int)) 100) _ = _
  rw [Int.neg_tdiv, Int.tdiv_eq_ediv_of_nonneg (by omega)]
  have : ((n / 100 : Nat) : Int) = (n : Int) / 100 := by omega
  rw [this]
  exact Int.bmod_eq_of_le (by omega) (by omega)
theorem ng_rem {n : Nat} (hn : n < 1000) : -nI (n / 100) * 100 - -nI n = nI (n % 100) := by
  refine Int32.toInt_inj.mp ?_
  have e1 : (-nI (n / 100) * 100).toInt = -((n / 100 : Nat) : Int) * 100 := by
    rw [i32_mul]
    · rw [ng_t (by omega)]; rfl
    · rw [ng_t (by omega)]; show _ ≤ -((n / 100 : Nat) : Int) * 100; omega
    · rw [ng_t (by omega)]; show -((n / 100 : Nat) : Int) * 100 < _; omega
  rw [i32_sub, e1, ng_t (by omega), nI_toInt (by omega)]
  · omega
  · rw [e1, ng_t (by omega)]; omega
  · rw [e1, ng_t (by omega)]; omega
theorem ng_ng {x : Int32} : - -x = x := Int32.neg_neg
theorem wA_wA {h : AH} {b : Nat} {f g : Nat → Int32} : wA (wA h b f) b g = wA h b g := by
  unfold wA
  refine ah_ext rfl rfl (fun _ => rfl) (fun _ _ => rfl) (fun j => ?_) (fun _ => rfl) (fun _ => rfl) rfl
  dsimp only
  split <;> rfl
theorem dg1 {n : Nat} (h : n < 10) : dgs n = [48 + n] := if_pos h
theorem dg2 {n : Nat} (h : ¬ n < 10) (h2 : n < 100) : dgs n = [48 + n / 10, 48 + n % 10] := (if_neg h).trans (if_pos h2)
theorem dg3 {n : Nat} (h : ¬ n < 10) (h2 : ¬ n < 100) : dgs n = [48 + n / 100, 48 + n / 10 % 10, 48 + n % 10] := (if_neg h).trans (if_neg h2)
theorem dgs_ok {n : Nat} (hn : n < 1000) : (∀ j, j < (dgs n).length → (dgs n).getD j 0 < 128) ∧ 1 ≤ (dgs n).length ∧ (dgs n).length ≤ 3 := by
  by_cases h1 : n < 10
  · rw [dg1 h1]
    refine ⟨fun j hj => ?_, by simp, by simp⟩
    obtain rfl : j = 0 := by simp at hj; omega
    show 48 + n < 128
    omega
  · by_cases h2 : n < 100
    · rw [dg2 h1 h2]
      refine ⟨fun j hj => ?_, by simp, by simp⟩
      rcases (show j = 0 ∨ j = 1 by simp at hj; omega) with rfl | rfl
      · show 48 + n / 10 < 128
        omega
      · show 48 + n % 10 < 128
        omega
    · rw [dg3 h1 h2]
      refine ⟨fun j hj => ?_, by simp, by simp⟩
      rcases (show j = 0 ∨ j = 1 ∨ j = 2 by simp at hj; omega) with rfl | rfl | rfl
      · show 48 + n / 100 < 128
        omega
      · show 48 + n / 10 % 10 < 128
        omega
      · show 48 + n % 10 < 128
        omega
section SBN
variable {d : Nat} {h : AH} {X : Nat → Prop} {v : Value} {bs cs : List Nat} {K : AO → AH → Prop} {i b cap m n c : Nat}
theorem s_ssz (hn : n < 1000) : EvM d 156 [.int (nI n)] h K = K (.inl (some (.int (nI (dgs n).length)))) h := by
  have p0 : (nI n < 0) = False := eq_false (nI_pos (by omega))
  have p1 : (-nI n ≤ (-10 : Int32)) = ¬ (n < 10) := by
    rw [i32_le, ng_t (by omega)]
    show (-(n : Int) ≤ (-10 : Int)) = _
    exact propext ⟨fun _ => by omega, fun _ => by omega⟩
  have p2 : (-nI n ≤ (-100 : Int32)) = ¬ (n < 100) := by
    rw [i32_le, ng_t (by omega)]
    show (-(n : Int) ≤ (-100 : Int)) = _
    exact propext ⟨fun _ => by omega, fun _ => by omega⟩
  have p3 : (-nI n ≤ (-1000 : Int32)) = ¬ (n < 1000) := by
    rw [i32_le, ng_t (by omega)]
    show (-(n : Int) ≤ (-1000 : Int)) = _
    exact propext ⟨fun _ => by omega, fun _ => by omega⟩
  have q1 : ((-10 : Int32) * 10) = -100 := by decide
  have q1' : ((10 : Int32) * -10) = -100 := by decide
  have q2' : ((10 : Int32) * -100) = -1000 := by decide
  have w1 : ((10 : Int32) ≤ 1) = False := eq_false (by decide)
  have w2 : ((10 : Int32) ≤ 2) = False := eq_false (by decide)
  have w3 : ((10 : Int32) ≤ 3) = False := eq_false (by decide)
  have u1 : (1 : Int32) + 1 = 2 := by decide
  have u2 : (2 : Int32) + 1 = 3 := by decide
  have v1 : (1 : Int32) + 0 = 1 := by decide
  have v2 : (2 : Int32) + 0 = 2 := by decide
  have v3 : (3 : Int32) + 0 = 3 := by decide
  simp only [in156, i156_0, i156_1, i156_2, i156_3, i156_6, i156_7, i156_8, i156_9, i156_10, i156_11, i156_13, i156_14, i156_15, i156_17, i156_19, i156_22, i156_23, i156_24, i156_27, i156_28, i156_29, i156_30, i156_31, i156_33, i156_34, i156_35, i156_36, i156_39, i156_42, i156_44, i156_45, i156_46, nl_i, nl_r, nl_0, nl_j, nb0, nb1, nbI, orv_s, konN_v, konN_n, konN_e, true_and, and_true, and_self, if_true, if_false, ite_true, ite_false, isR_ref, true_or, or_true, isR_null, rg10, rg11, rg12, rg13, rg14, rg15, rg16, rh13, rh14, rh15, rh16, bI_T, bI_F, bI_Fb, i1z, Bool.false_eq_true, p0]
  rw [i156_16]
  by_cases h1 : n < 10
  · rw [dg1 h1]
    simp only [in156, i156_0, i156_1, i156_2, i156_3, i156_6, i156_7, i156_8, i156_9, i156_10, i156_11, i156_13, i156_14, i156_15, i156_17, i156_19, i156_22, i156_23, i156_24, i156_27, i156_28, i156_29, i156_30, i156_31, i156_33, i156_34, i156_35, i156_36, i156_39, i156_42, i156_44, i156_45, i156_46, nl_i, nl_r, nl_0, nl_j, nb0, nb1, nbI, orv_s, konN_v, konN_n, konN_e, true_and, and_true, and_self, if_true, if_false, ite_true, ite_false, isR_ref, true_or, or_true, isR_null, rg10, rg11, rg12, rg13, rg14, rg15, rg16, rh13, rh14, rh15, rh16, bI_T, bI_F, bI_Fb, i1z, Bool.false_eq_true, w1, p1, h1, not_true, v1]
    rfl
  · simp only [in156, i156_0, i156_1, i156_2, i156_3, i156_6, i156_7, i156_8, i156_9, i156_10, i156_11, i156_13, i156_14, i156_15, i156_17, i156_19, i156_22, i156_23, i156_24, i156_27, i156_28, i156_29, i156_30, i156_31, i156_33, i156_34, i156_35, i156_36, i156_39, i156_42, i156_44, i156_45, i156_46, nl_i, nl_r, nl_0, nl_j, nb0, nb1, nbI, orv_s, konN_v, konN_n, konN_e, true_and, and_true, and_self, if_true, if_false, ite_true, ite_false, isR_ref, true_or, or_true, isR_null, rg10, rg11, rg12, rg13, rg14, rg15, rg16, rh13, rh14, rh15, rh16, bI_T, bI_F, bI_Fb, i1z, Bool.false_eq_true, w1, p1, h1, not_false_eq_true, q1', u1]
    rw [i156_16]
    by_cases h2 : n < 100
    · rw [dg2 h1 h2]
      simp only [in156, i156_0, i156_1, i156_2, i156_3, i156_6, i156_7, i156_8, i156_9, i156_10, i156_11, i156_13, i156_14, i156_15, i156_17, i156_19, i156_22, i156_23, i156_24, i156_27, i156_28, i156_29, i156_30, i156_31, i156_33, i156_34, i156_35, i156_36, i156_39, i156_42, i156_44, i156_45, i156_46, nl_i, nl_r, nl_0, nl_j, nb0, nb1, nbI, orv_s, konN_v, konN_n, konN_e, true_and, and_true, and_self, if_true, if_false, ite_true, ite_false, isR_ref, true_or, or_true, isR_null, rg10, rg11, rg12, rg13, rg14, rg15, rg16, rh13, rh14, rh15, rh16, bI_T, bI_F, bI_Fb, i1z, Bool.false_eq_true, w2, p2, h2, not_true, v2]
      rfl
    · simp only [in156, i156_0, i156_1, i156_2, i156_3, i156_6, i156_7, i156_8, i156_9, i156_10, i156_11, i156_13, i156_14, i156_15, i156_17, i156_19, i156_22, i156_23, i156_24, i156_27, i156_28, i156_29, i156_30, i156_31, i156_33, i156_34, i156_35, i156_36, i156_39, i156_42, i156_44, i156_45, i156_46, nl_i, nl_r, nl_0, nl_j, nb0, nb1, nbI, orv_s, konN_v, konN_n, konN_e, true_and, and_true, and_self, if_true, if_false, ite_true, ite_false, isR_ref, true_or, or_true, isR_null, rg10, rg11, rg12, rg13, rg14, rg15, rg16, rh13, rh14, rh15, rh16, bI_T, bI_F, bI_Fb, i1z, Bool.false_eq_true, w2, p2, h2, not_false_eq_true, q2', u2]
      rw [i156_16, dg3 h1 h2]
      simp only [in156, i156_0, i156_1, i156_2, i156_3, i156_6, i156_7, i156_8, i156_9, i156_10, i156_11, i156_13, i156_14, i156_15, i156_17, i156_19, i156_22, i156_23, i156_24, i156_27, i156_28, i156_29, i156_30, i156_31, i156_33, i156_34, i156_35, i156_36, i156_39, i156_42, i156_44, i156_45, i156_46, nl_i, nl_r, nl_0, nl_j, nb0, nb1, nbI, orv_s, konN_v, konN_n, konN_e, true_and, and_true, and_self, if_true, if_false, ite_true, ite_false, isR_ref, true_or, or_true, isR_null, rg10, rg11, rg12, rg13, rg14, rg15, rg16, rh13, rh14, rh15, rh16, bI_T, bI_F, bI_Fb, i1z, Bool.false_eq_true, w3, p3, hn, not_true, v3]
      rfl
theorem s_getChars (hn : n < 1000) (hk : hk h b = 11) (hl : hl h b = cap) (hc : c + (dgs n).length ≤ cap) (hcap : cap ≤ 5000) : EvM d 155 [.int (nI n), .int (nI (c + (dgs n).length)), .ref b] h K = K (.inl (some (.int (nI c)))) (wA h b (va_cpy (fun j => nI ((dgs n).getD j 0)) (hA h b) 0 c (dgs n).length)) := by
  have p0 : (0 ≤ nI n) = True := eq_true (nI_pos' (by omega))
  have kb : ∀ f, CTemperingLineLaw_law_r1743_4daa03.hk (wA h b f) b = 11 := fun f => hk
  have lb : ∀ f, CTemperingLineLaw_law_r1743_4daa03.hl (wA h b f) b = cap := fun f => hl
  have by0 : ∀ c, c < 128 → (nI c).toInt8.toInt32 = nI c := byte1
  have eo : ∀ j, dgt 101 j = nI (48 + j % 10) := fun j => if_pos rfl
  have et : ∀ j, dgt 102 j = nI (48 + j / 10) := fun j => if_neg (by decide)
  have im : ∀ m, m < 100 → inb (nI m) 100 = True := fun m hm => inbT hm (by omega)
  by_cases h1 : n < 10
  · have ef : va_cpy (fun j => nI ((dgs n).getD j 0)) (hA h b) 0 c (dgs n).length = upd (hA h b) c (nI (48 + n % 10)) := by
      rw [dg1 h1]
      funext j
      show (if c ≤ j ∧ j < c + 1 then nI (([48 + n] : List Nat).getD (0 + (j - c)) 0) else _) = _
      by_cases e : j = c
      · subst e
        rw [if_pos ⟨by omega, by omega⟩, upd_e, show 0 + (j - j) = 0 by omega, show n % 10 = n by omega]
        rfl
      · rw [if_neg (by omega), upd_n e]
    have l1 : (dgs n).length = 1 := by rw [dg1 h1]; rfl
    rw [ef]
    rw [l1] at hc ⊢
    simp only [in155, i155_0, i155_1, i155_3, i155_4, i155_7, i155_8, i155_11, i155_12, i155_14, i155_16, i155_19, i155_20, i155_21, i155_23, i155_25, i155_28, i155_29, i155_31, i155_32, i155_33, i155_34, i155_36, i155_37, i155_38, i155_39, i155_41, i155_42, i155_43, i155_44, i155_47, i155_49, i155_52, i155_54, i155_55, i155_56, i155_57, i155_60, i155_62, i155_65, i155_67, i155_68, i155_69, i155_72, i155_73, i155_76, i155_78, i155_81, i155_82, i155_83, i155_84, i155_85, i155_86, i155_88, i155_91, i155_92, i155_95, i155_97, i155_100, i155_101, i155_102, i155_103, i155_104, i155_106, i155_109, i155_110, i155_113, i155_115, i155_117, i155_118, i155_120, nl_i, nl_r, nl_0, nl_j, nb0, nb1, nbI, orv_s, konN_v, konN_n, konN_e, true_and, and_true, and_self, if_true, if_false, ite_true, ite_false, isR_ref, true_or, or_true, isR_null, rg10, rg11, rg12, rg13, rg14, rg15, rg16, rh13, rh14, rh15, rh16, bI_T, bI_F, bI_Fb, i1z, Bool.false_eq_true, p0]
    rw [i155_22]
    simp only [in155, i155_0, i155_1, i155_3, i155_4, i155_7, i155_8, i155_11, i155_12, i155_14, i155_16, i155_19, i155_20, i155_21, i155_23, i155_25, i155_28, i155_29, i155_31, i155_32, i155_33, i155_34, i155_36, i155_37, i155_38, i155_39, i155_41, i155_42, i155_43, i155_44, i155_47, i155_49, i155_52, i155_54, i155_55, i155_56, i155_57, i155_60, i155_62, i155_65, i155_67, i155_68, i155_69, i155_72, i155_73, i155_76, i155_78, i155_81, i155_82, i155_83, i155_84, i155_85, i155_86, i155_88, i155_91, i155_92, i155_95, i155_97, i155_100, i155_101, i155_102, i155_103, i155_104, i155_106, i155_109, i155_110, i155_113, i155_115, i155_117, i155_118, i155_120, nl_i, nl_r, nl_0, nl_j, nb0, nb1, nbI, orv_s, konN_v, konN_n, konN_e, true_and, and_true, and_self, if_true, if_false, ite_true, ite_false, isR_ref, true_or, or_true, isR_null, rg10, rg11, rg12, rg13, rg14, rg15, rg16, rh13, rh14, rh15, rh16, bI_T, bI_F, bI_Fb, i1z, Bool.false_eq_true, ng_100 (show n < 2 ^ 31 by omega), ng_9 (show n < 2 ^ 31 by omega), show n < 100 by omega, show n ≤ 9 by omega, ng_ng, nI_m1, im n (by omega), nI_clamp (show n < 2 ^ 31 by omega), nI_clamp (show c < 2 ^ 31 by omega), eo, by0 (48 + n % 10) (by omega), hk, hl, inbT (show c < cap by omega) (show cap < 2 ^ 31 by omega)]
  · by_cases h2 : n < 100
    · have ef : va_cpy (fun j => nI ((dgs n).getD j 0)) (hA h b) 0 c (dgs n).length = upd (upd (hA h b) (c + 1) (nI (48 + n % 10))) c (nI (48 + n / 10)) := by
        rw [dg2 h1 h2]
        funext j
        show (if c ≤ j ∧ j < c + 2 then nI (([48 + n / 10, 48 + n % 10] : List Nat).getD (0 + (j - c)) 0) else _) = _
        by_cases e : j = c
        · subst e
          rw [if_pos ⟨by omega, by omega⟩, upd_e, show 0 + (j - j) = 0 by omega]
          rfl
        · rw [upd_n e]
          by_cases e1 : j = c + 1
          · subst e1
            rw [if_pos ⟨by omega, by omega⟩, upd_e, show 0 + (c + 1 - c) = 1 by omega]
            rfl
          · rw [if_neg (by omega), upd_n e1]
      have l1 : (dgs n).length = 2 := by rw [dg2 h1 h2]; rfl
      rw [ef]
      rw [l1] at hc ⊢
      simp only [in155, i155_0, i155_1, i155_3, i155_4, i155_7, i155_8, i155_11, i155_12, i155_14, i155_16, i155_19, i155_20, i155_21, i155_23, i155_25, i155_28, i155_29, i155_31, i155_32, i155_33, i155_34, i155_36, i155_37, i155_38, i155_39, i155_41, i155_42, i155_43, i155_44, i155_47, i155_49, i155_52, i155_54, i155_55, i155_56, i155_57, i155_60, i155_62, i155_65, i155_67, i155_68, i155_69, i155_72, i155_73, i155_76, i155_78, i155_81, i155_82, i155_83, i155_84, i155_85, i155_86, i155_88, i155_91, i155_92, i155_95, i155_97, i155_100, i155_101, i155_102, i155_103, i155_104, i155_106, i155_109, i155_110, i155_113, i155_115, i155_117, i155_118, i155_120, nl_i, nl_r, nl_0, nl_j, nb0, nb1, nbI, orv_s, konN_v, konN_n, konN_e, true_and, and_true, and_self, if_true, if_false, ite_true, ite_false, isR_ref, true_or, or_true, isR_null, rg10, rg11, rg12, rg13, rg14, rg15, rg16, rh13, rh14, rh15, rh16, bI_T, bI_F, bI_Fb, i1z, Bool.false_eq_true, p0]
      rw [i155_22]
      simp only [in155, i155_0, i155_1, i155_3, i155_4, i155_7, i155_8, i155_11, i155_12, i155_14, i155_16, i155_19, i155_20, i155_21, i155_23, i155_25, i155_28, i155_29, i155_31, i155_32, i155_33, i155_34, i155_36, i155_37, i155_38, i155_39, i155_41, i155_42, i155_43, i155_44, i155_47, i155_49, i155_52, i155_54, i155_55, i155_56, i155_57, i155_60, i155_62, i155_65, i155_67, i155_68, i155_69, i155_72, i155_73, i155_76, i155_78, i155_81, i155_82, i155_83, i155_84, i155_85, i155_86, i155_88, i155_91, i155_92, i155_95, i155_97, i155_100, i155_101, i155_102, i155_103, i155_104, i155_106, i155_109, i155_110, i155_113, i155_115, i155_117, i155_118, i155_120, nl_i, nl_r, nl_0, nl_j, nb0, nb1, nbI, orv_s, konN_v, konN_n, konN_e, true_and, and_true, and_self, if_true, if_false, ite_true, ite_false, isR_ref, true_or, or_true, isR_null, rg10, rg11, rg12, rg13, rg14, rg15, rg16, rh13, rh14, rh15, rh16, bI_T, bI_F, bI_Fb, i1z, Bool.false_eq_true, ng_100 (show n < 2 ^ 31 by omega), ng_9 (show n < 2 ^ 31 by omega), h2, show ¬ n ≤ 9 by omega, ng_ng, show c + 2 = (c + 1) + 1 from rfl, nI_m1, im n (by omega), nI_clamp (show n < 2 ^ 31 by omega), nI_clamp (show c < 2 ^ 31 by omega), nI_clamp (show c + 1 < 2 ^ 31 by omega), eo, et, by0 (48 + n % 10) (by omega), by0 (48 + n / 10) (by omega), hk, hl, kb, lb, wA_eq, wA_wA, inbT (show c < cap by omega) (show cap < 2 ^ 31 by omega), inbT (show c + 1 < cap by omega) (show cap < 2 ^ 31 by omega)]
    · have ef : va_cpy (fun j => nI ((dgs n).getD j 0)) (hA h b) 0 c (dgs n).length = upd (upd (upd (hA h b) (c + 1 + 1) (nI (48 + n % 100 % 10))) (c + 1) (nI (48 + n % 100 / 10))) c (nI (48 + n / 100 % 10)) := by
        rw [dg3 h1 h2]
        funext j
        show (if c ≤ j ∧ j < c + 3 then nI (([48 + n / 100, 48 + n / 10 % 10, 48 + n % 10] : List Nat).getD (0 + (j - c)) 0) else _) = _
        by_cases e : j = c
        · subst e
          rw [if_pos ⟨by omega, by omega⟩, upd_e, show 0 + (j - j) = 0 by omega, show n / 100 % 10 = n / 100 by omega]
          rfl
        · rw [upd_n e]
          by_cases e1 : j = c + 1
          · subst e1
            rw [if_pos ⟨by omega, by omega⟩, upd_e, show 0 + (c + 1 - c) = 1 by omega, show n % 100 / 10 = n / 10 % 10 by omega]
            rfl
          · rw [upd_n e1]
            by_cases e2 : j = c + 1 + 1
            · subst e2
              rw [if_pos ⟨by omega, by omega⟩, upd_e, show 0 + (c + 1 + 1 - c) = 2 by omega, show n % 100 % 10 = n % 10 by omega]
              rfl
            · rw [if_neg (by omega), upd_n e2]
      have l1 : (dgs n).length = 3 := by rw [dg3 h1 h2]; rfl
      rw [ef]
      rw [l1] at hc ⊢
      have k100 : ((100 : Int32) = 0) = False := eq_false (by decide)
      simp only [in155, i155_0, i155_1, i155_3, i155_4, i155_7, i155_8, i155_11, i155_12, i155_14, i155_16, i155_19, i155_20, i155_21, i155_23, i155_25, i155_28, i155_29, i155_31, i155_32, i155_33, i155_34, i155_36, i155_37, i155_38, i155_39, i155_41, i155_42, i155_43, i155_44, i155_47, i155_49, i155_52, i155_54, i155_55, i155_56, i155_57, i155_60, i155_62, i155_65, i155_67, i155_68, i155_69, i155_72, i155_73, i155_76, i155_78, i155_81, i155_82, i155_83, i155_84, i155_85, i155_86, i155_88, i155_91, i155_92, i155_95, i155_97, i155_100, i155_101, i155_102, i155_103, i155_104, i155_106, i155_109, i155_110, i155_113, i155_115, i155_117, i155_118, i155_120, nl_i, nl_r, nl_0, nl_j, nb0, nb1, nbI, orv_s, konN_v, konN_n, konN_e, true_and, and_true, and_self, if_true, if_false, ite_true, ite_false, isR_ref, true_or, or_true, isR_null, rg10, rg11, rg12, rg13, rg14, rg15, rg16, rh13, rh14, rh15, rh16, bI_T, bI_F, bI_Fb, i1z, Bool.false_eq_true, p0]
      rw [i155_22]
      simp only [in155, i155_0, i155_1, i155_3, i155_4, i155_7, i155_8, i155_11, i155_12, i155_14, i155_16, i155_19, i155_20, i155_21, i155_23, i155_25, i155_28, i155_29, i155_31, i155_32, i155_33, i155_34, i155_36, i155_37, i155_38, i155_39, i155_41, i155_42, i155_43, i155_44, i155_47, i155_49, i155_52, i155_54, i155_55, i155_56, i155_57, i155_60, i155_62, i155_65, i155_67, i155_68, i155_69, i155_72, i155_73, i155_76, i155_78, i155_81, i155_82, i155_83, i155_84, i155_85, i155_86, i155_88, i155_91, i155_92, i155_95, i155_97, i155_100, i155_101, i155_102, i155_103, i155_104, i155_106, i155_109, i155_110, i155_113, i155_115, i155_117, i155_118, i155_120, nl_i, nl_r, nl_0, nl_j, nb0, nb1, nbI, orv_s, konN_v, konN_n, konN_e, true_and, and_true, and_self, if_true, if_false, ite_true, ite_false, isR_ref, true_or, or_true, isR_null, rg10, rg11, rg12, rg13, rg14, rg15, rg16, rh13, rh14, rh15, rh16, bI_T, bI_F, bI_Fb, i1z, Bool.false_eq_true, ng_100 (show n < 2 ^ 31 by omega), h2, k100, not_false_eq_true, ng_div hn, ng_rem hn, show c + 3 = (c + 1 + 1) + 1 from rfl, nI_m1, im (n % 100) (by omega), nI_clamp (show n % 100 < 2 ^ 31 by omega), nI_clamp (show c + 1 < 2 ^ 31 by omega), nI_clamp (show c + 1 + 1 < 2 ^ 31 by omega), eo, et, by0 (48 + n % 100 % 10) (by omega), by0 (48 + n % 100 / 10) (by omega), hk, hl, kb, lb, wA_eq, wA_wA, inbT (show c + 1 + 1 < cap by omega) (show cap < 2 ^ 31 by omega), inbT (show c + 1 < cap by omega) (show cap < 2 ^ 31 by omega)]
      rw [i155_22]
      simp only [in155, i155_0, i155_1, i155_3, i155_4, i155_7, i155_8, i155_11, i155_12, i155_14, i155_16, i155_19, i155_20, i155_21, i155_23, i155_25, i155_28, i155_29, i155_31, i155_32, i155_33, i155_34, i155_36, i155_37, i155_38, i155_39, i155_41, i155_42, i155_43, i155_44, i155_47, i155_49, i155_52, i155_54, i155_55, i155_56, i155_57, i155_60, i155_62, i155_65, i155_67, i155_68, i155_69, i155_72, i155_73, i155_76, i155_78, i155_81, i155_82, i155_83, i155_84, i155_85, i155_86, i155_88, i155_91, i155_92, i155_95, i155_97, i155_100, i155_101, i155_102, i155_103, i155_104, i155_106, i155_109, i155_110, i155_113, i155_115, i155_117, i155_118, i155_120, nl_i, nl_r, nl_0, nl_j, nb0, nb1, nbI, orv_s, konN_v, konN_n, konN_e, true_and, and_true, and_self, if_true, if_false, ite_true, ite_false, isR_ref, true_or, or_true, isR_null, rg10, rg11, rg12, rg13, rg14, rg15, rg16, rh13, rh14, rh15, rh16, bI_T, bI_F, bI_Fb, i1z, Bool.false_eq_true, ng_100 (show n / 100 < 2 ^ 31 by omega), ng_9 (show n / 100 < 2 ^ 31 by omega), show n / 100 < 100 by omega, show n / 100 ≤ 9 by omega, ng_ng, nI_m1, im (n / 100) (by omega), nI_clamp (show n / 100 < 2 ^ 31 by omega), nI_clamp (show c < 2 ^ 31 by omega), eo, by0 (48 + n / 100 % 10) (by omega), kb, lb, wA_eq, wA_wA, inbT (show c < cap by omega) (show cap < 2 ^ 31 by omega)]
theorem s_appI (x : SBr h i b cap bs) (hn : n < 1000) (hl0 : bs.length + 3 ≤ 1000) : ∃ h' b' cap', (Sm (fun x => x = i ∨ x = b) h h' ∧ hN h' ≤ hN h + 1 ∧ hS h' ≤ hS h + 2010) ∧ SBr h' i b' cap' (bs ++ dgs n) ∧ (b' = b ∨ b' = hN h) ∧ ∀ d K, EvM (d + 5) 107 [.ref i, .int (nI n)] h K = K (.inl (some (.ref i))) h' := by
  obtain ⟨dk, d1, d3⟩ := dgs_ok hn
  obtain ⟨h1, b1, cap1, ⟨s1, n1, m1⟩, ⟨x1, hc1, hb1⟩, r1⟩ := s_ens x (m := bs.length + (dgs n).length) (by omega)
  have x1' := x1
  obtain ⟨⟨a1, a2, a3, a4⟩, ⟨b1k, b1l⟩, ⟨c1, c2⟩, ⟨e1, e2⟩, -, -⟩ := x1'
  have w : Sm (fun x => x = i ∨ x = b ∨ x = hN h) h (wF (wA h1 b1 (va_cpy (fun j => nI ((dgs n).getD j 0)) (hA h1 b1) 0 bs.length (dgs n).length)) i 3 (.int (nI (bs.length + (dgs n).length)))) := ((s1.mo (V := fun x => x = i ∨ x = b ∨ x = hN h) (fun _ _ z => Or.inl z)).tr (Sm.wA (W := fun x => x = i ∨ x = b ∨ x = hN h) (Or.inr hb1))).tr (Sm.wF (W := fun x => x = i ∨ x = b ∨ x = hN h) (Or.inl rfl))
  have sz := fun (d : Nat) (K : AO → AH → Prop) => s_ssz (d := d) (h := h) (K := K) hn
  have gc := fun (d : Nat) (K : AO → AH → Prop) => s_getChars (d := d) (K := K) (c := bs.length) hn b1k b1l hc1 c2
  have kx : hk h i = 21 := x.1.1
  have fx : hF h i 3 = .int (nI bs.length) := x.1.2.2.2
  have ea : nI bs.length + nI (dgs n).length = nI (bs.length + (dgs n).length) := nI_add _ _
  refine ⟨_, b1, cap1, ⟨w.mo (fun j hj z => by rcases z with z | z | z <;> first | exact Or.inl z | exact Or.inr z | omega), n1, m1⟩, x1.add (fun j hj => rfl) dk hc1 (by omega), hb1, fun d K => ?_⟩
  have k2 : ∀ F : Nat → Int32, hk (wA h1 b1 F) i = 21 := fun F => a1
  simp only [in107, i107_0, i107_1, i107_2, i107_5, i107_6, i107_7, in150, i150_0, i150_1, i150_4, i150_5, i150_6, i150_7, i150_10, i150_11, i150_12, i150_13, i150_14, i150_17, i150_18, i150_21, i150_24, i150_25, i150_26, i150_27, i150_30, i150_33, i150_34, i150_37, i150_38, i150_39, i150_40, i150_41, i150_48, i150_49, i150_50, i150_53, i150_54, in152, i152_0, i152_3, i152_6, i152_7, i152_10, i152_13, i152_14, i152_17, i152_18, nl_i, nl_r, nl_0, nl_j, nb0, nb1, nbI, orv_s, konN_v, konN_n, konN_e, true_and, and_true, and_self, if_true, if_false, ite_true, ite_false, isR_ref, true_or, or_true, isR_null, rg10, rg11, rg12, rg13, rg14, rg15, rg16, rh13, rh14, rh15, rh16, bI_T, bI_F, bI_Fb, i1z, Bool.false_eq_true, kx, fx, sz, ea, r1, recvU21 a1, recv15 a1, a1, a2, a3, i1z, gc, k2]
end SBN
