/-! LEAVING THE QUENCH, MOVING ON -/
def learnF (a : Nat → Nat → Int32) (th ch : Int32) : Nat → Nat → Int32 := upf a 10 (upd (a 10) (zn th) (lim (a 10 (zn th) + ch) (-50) 50))
def judgeF (sa : Nat → Nat → Int32) (q : Nat → Int32) (x : Int32) (a : Nat → Nat → Int32) : Nat → Nat → Int32 :=
  (fun th : Int32 =>
    if 2 ≤ th ∧ th ≤ 19 then
      if ¬ sa 6 (zn th) = -1 ∧ a 5 (zn x) < sa 6 (zn th) then learnF (upf (upf a 6 (upd (a 6) (zn x) 4)) 8 (upd (a 8) (zn th) (a 8 (zn th) + 1))) th (q 2)
      else if ¬ sa 7 (zn th) = -1 ∧ sa 7 (zn th) < a 5 (zn x) then learnF (upf (upf a 6 (upd (a 6) (zn x) 4)) 9 (upd (a 9) (zn th) (a 9 (zn th) + 1))) th (-q 2)
      else upf (upf a 6 (upd (a 6) (zn x) 3)) 7 (upd (a 7) (zn th) (a 7 (zn th) + 1))
    else a) (a 4 (zn x))
def corF (a : Nat → Nat → Int32) (th : Int32) : Int32 := if 2 ≤ th ∧ th ≤ 19 then a 10 (zn th) else 0
def toQuF (q : Nat → Int32) (k : Nat) (x : Int32) (v : LSt) : LSt := if v.1 3 = -1 then (upf (upf v.1 3 x) 4 (v.2 4 (zn x) * q 1), upf (upf v.2 3 (upd (v.2 3) k (-1))) 6 (upd (v.2 6) (zn x) 2)) else v
def toNxF (q : Nat → Int32) (k : Nat) (x : Int32) (a : Nat → Nat → Int32) : Nat → Nat → Int32 := if k + 1 < zn (q 0) ∧ a 3 (k + 1) = -1 then upf a 3 (upd (upd (a 3) k (-1)) (k + 1) x) else a
def moveF (sa : Nat → Nat → Int32) (q : Nat → Int32) (k : Nat) (v : LSt) : LSt :=
  (fun x : Int32 =>
    if 0 ≤ x ∧ x < v.1 2 then
      (fun sh : Int32 =>
        if sa 5 k + sh < v.2 5 (zn x) then (v.1, spoilL (zn (q 0)) x v.2)
        else if sa 4 k + sh ≤ v.2 5 (zn x) then (if nI k = q 0 - 1 then toQuF q k x v else (v.1, toNxF q k x v.2)) else v)
      (if nI k = q 0 - 1 then corF v.2 (v.2 4 (zn x)) else 0)
    else v) (v.2 3 k)
section JG
variable {d : Nat} {hh : AH} {h : AH} {T : Nat → Bool} {U S A : Nat → Nat → Int32} {J : Nat → Nat → Int64} {G : Nat → Nat} {K : AO → AH → Prop} {b s t n k : Nat} {x y z w : Int32} {f q pg : Nat → Int32} {a sa : Nat → Nat → Int32}
theorem i1z : ((1 : Int32) = 0) = False := eq_false (by decide)
theorem inb_th {th : Int32} (h0 : 2 ≤ th) (h1 : th ≤ 19) : inb th 20 = True := by
  rw [i32_le] at h0 h1
  have h0 : (2 : Int) ≤ th.toInt := h0
  have h1 : th.toInt ≤ 19 := h1
  refine eq_true ⟨?_, ?_⟩
  · rw [i32_le]
    show (0 : Int) ≤ th.toInt
    omega
  · show th.toInt.toNat < 20
    omega
theorem s_isThickness : EvM (d + 1) 82 [.int x] hh K = K (.inl (some (.int (bI (2 ≤ x ∧ x ≤ 19))))) hh := by
  simp only [in82, i82_0, i82_1, i82_2, i82_4, i82_7, nl_i, nl_r, nl_0, nl_j, nb0, nb1, nbI, orv_s, konN_v, konN_n, konN_e, true_and, and_true, and_self, if_true, if_false, ite_true, ite_false, isR_ref, true_or, or_true, isR_null, rg10, rg11, rg12, rg13, rg14, rg15, rg16, rh13, rh14, rh15, rh16, s_isWithin]
theorem s_learn (hb : isLine b = true) (h0 : 2 ≤ x) (h1 : x ≤ 19) : EvM (d + 1) 22 [.ref b, .int x, .int y] (MH h T U (pS S b f) (pA A b a) J G) K = K (.inl none) (MH h T U (pS S b f) (pA A b (learnF a x y)) J G) := by
  simp only [in22, i22_0, i22_1, i22_4, i22_5, i22_6, i22_9, i22_10, i22_11, i22_12, i22_13, i22_15, i22_17, i22_20, i22_21, nl_i, nl_r, nl_0, nl_j, nb0, nb1, nbI, orv_s, konN_v, konN_n, konN_e, true_and, and_true, and_self, if_true, if_false, ite_true, ite_false, isR_ref, true_or, or_true, isR_null, rg10, rg11, rg12, rg13, rg14, rg15, rg16, rh13, rh14, rh15, rh16, k_l0 hb, k_l1 hb, k_l2 hb, k_l3 hb, k_l4 hb, k_l5 hb, k_l6 hb, k_l7 hb, k_l8 hb, k_l9 hb, k_l10 hb, l_l1 hb, l_l2 hb, l_l3 hb, l_l4 hb, l_l5 hb, l_l6 hb, l_l7 hb, l_l8 hb, l_l9 hb, l_l10 hb, a_l1 hb, a_l2 hb, a_l3 hb, a_l4 hb, a_l5 hb, a_l6 hb, a_l7 hb, a_l8 hb, a_l9 hb, a_l10 hb, wa_l1 hb, wa_l2 hb, wa_l3 hb, wa_l4 hb, wa_l5 hb, wa_l6 hb, wa_l7 hb, wa_l8 hb, wa_l9 hb, wa_l10 hb, f_l0 hb, f_l1 hb, f_l2 hb, f_l3 hb, f_l4 hb, f_l5 hb, f_l6 hb, f_l7 hb, f_l8 hb, f_l9 hb, f_l10 hb, f_l11 hb, f_l12 hb, f_l13 hb, f_l14 hb, w_l0 hb, w_l1 hb, w_l2 hb, w_l3 hb, w_l4 hb, pS_b, pS_up, pA_1, pA_2, pA_3, pA_4, pA_5, pA_6, pA_7, pA_8, pA_9, pA_10, pU_1, pU_2, pU_3, pU_4, pU_5, pU_6, pU_7, pU_8, pU_9, pU_10, mh_N, mh_S, mh_X, mh_alH, s_limit, inb_th h0 h1]
  rfl
theorem s_correctionFor (hb : isLine b = true) : EvM (d + 2) 24 [.ref b, .int x] (MH h T U (pS S b f) (pA A b a) J G) K = K (.inl (some (.int (corF a x)))) (MH h T U (pS S b f) (pA A b a) J G) := by
  unfold corF
  by_cases h1 : 2 ≤ x ∧ x ≤ 19
  · simp only [in24, i24_0, i24_1, i24_4, i24_7, i24_8, i24_11, i24_12, i24_13, i24_16, i24_17, nl_i, nl_r, nl_0, nl_j, nb0, nb1, nbI, orv_s, konN_v, konN_n, konN_e, true_and, and_true, and_self, if_true, if_false, ite_true, ite_false, isR_ref, true_or, or_true, isR_null, rg10, rg11, rg12, rg13, rg14, rg15, rg16, rh13, rh14, rh15, rh16, k_l0 hb, k_l1 hb, k_l2 hb, k_l3 hb, k_l4 hb, k_l5 hb, k_l6 hb, k_l7 hb, k_l8 hb, k_l9 hb, k_l10 hb, l_l1 hb, l_l2 hb, l_l3 hb, l_l4 hb, l_l5 hb, l_l6 hb, l_l7 hb, l_l8 hb, l_l9 hb, l_l10 hb, a_l1 hb, a_l2 hb, a_l3 hb, a_l4 hb, a_l5 hb, a_l6 hb, a_l7 hb, a_l8 hb, a_l9 hb, a_l10 hb, wa_l1 hb, wa_l2 hb, wa_l3 hb, wa_l4 hb, wa_l5 hb, wa_l6 hb, wa_l7 hb, wa_l8 hb, wa_l9 hb, wa_l10 hb, f_l0 hb, f_l1 hb, f_l2 hb, f_l3 hb, f_l4 hb, f_l5 hb, f_l6 hb, f_l7 hb, f_l8 hb, f_l9 hb, f_l10 hb, f_l11 hb, f_l12 hb, f_l13 hb, f_l14 hb, w_l0 hb, w_l1 hb, w_l2 hb, w_l3 hb, w_l4 hb, pS_b, pS_up, pA_1, pA_2, pA_3, pA_4, pA_5, pA_6, pA_7, pA_8, pA_9, pA_10, pU_1, pU_2, pU_3, pU_4, pU_5, pU_6, pU_7, pU_8, pU_9, pU_10, mh_N, mh_S, mh_X, mh_alH, s_isThickness, bI_t h1, i1z, inb_th h1.1 h1.2]
    rw [if_pos h1]
  · simp only [in24, i24_0, i24_1, i24_4, i24_7, i24_8, i24_11, i24_12, i24_13, i24_16, i24_17, nl_i, nl_r, nl_0, nl_j, nb0, nb1, nbI, orv_s, konN_v, konN_n, konN_e, true_and, and_true, and_self, if_true, if_false, ite_true, ite_false, isR_ref, true_or, or_true, isR_null, rg10, rg11, rg12, rg13, rg14, rg15, rg16, rh13, rh14, rh15, rh16, k_l0 hb, k_l1 hb, k_l2 hb, k_l3 hb, k_l4 hb, k_l5 hb, k_l6 hb, k_l7 hb, k_l8 hb, k_l9 hb, k_l10 hb, l_l1 hb, l_l2 hb, l_l3 hb, l_l4 hb, l_l5 hb, l_l6 hb, l_l7 hb, l_l8 hb, l_l9 hb, l_l10 hb, a_l1 hb, a_l2 hb, a_l3 hb, a_l4 hb, a_l5 hb, a_l6 hb, a_l7 hb, a_l8 hb, a_l9 hb, a_l10 hb, wa_l1 hb, wa_l2 hb, wa_l3 hb, wa_l4 hb, wa_l5 hb, wa_l6 hb, wa_l7 hb, wa_l8 hb, wa_l9 hb, wa_l10 hb, f_l0 hb, f_l1 hb, f_l2 hb, f_l3 hb, f_l4 hb, f_l5 hb, f_l6 hb, f_l7 hb, f_l8 hb, f_l9 hb, f_l10 hb, f_l11 hb, f_l12 hb, f_l13 hb, f_l14 hb, w_l0 hb, w_l1 hb, w_l2 hb, w_l3 hb, w_l4 hb, pS_b, pS_up, pA_1, pA_2, pA_3, pA_4, pA_5, pA_6, pA_7, pA_8, pA_9, pA_10, pU_1, pU_2, pU_3, pU_4, pU_5, pU_6, pU_7, pU_8, pU_9, pU_10, mh_N, mh_S, mh_X, mh_alH, s_isThickness, bI_f h1]
    rw [if_neg h1]
theorem s_judge (hb : isLine b = true) (hs : SUp h T (G b) t q sa n pg) (hn : zn (f 2) ≤ 20) (hx : 0 ≤ x ∧ x < f 2) : EvM (d + 2) 21 [.ref b, .int x] (MH h T U (pS S b f) (pA A b a) J G) K = K (.inl none) (MH h T U (pS S b f) (pA A b (judgeF sa q x a)) J G) := by
  have hi : inb x 20 = True := inb_sh hx.1 hx.2 hn
  unfold judgeF
  dsimp only
  by_cases h1 : 2 ≤ a 4 (zn x) ∧ a 4 (zn x) ≤ 19
  · have ht : inb (a 4 (zn x)) 20 = True := inb_th h1.1 h1.2
    rw [if_pos h1]
    simp only [in21, i21_0, i21_1, i21_4, i21_5, i21_6, i21_7, i21_8, i21_11, i21_14, i21_15, i21_16, i21_19, i21_22, i21_23, i21_24, i21_25, i21_26, i21_29, i21_32, i21_33, i21_34, i21_36, i21_37, i21_40, i21_41, i21_42, i21_44, i21_45, i21_46, i21_49, i21_51, i21_52, i21_55, i21_56, i21_59, i21_60, i21_61, i21_62, i21_63, i21_66, i21_67, i21_68, i21_69, i21_70, i21_71, i21_72, i21_73, i21_74, i21_75, i21_78, i21_81, i21_84, i21_87, i21_89, i21_90, i21_93, i21_95, i21_97, i21_100, i21_101, i21_104, i21_105, i21_106, i21_107, i21_108, i21_111, i21_112, i21_113, i21_114, i21_115, i21_116, i21_117, i21_118, i21_119, i21_120, i21_123, i21_126, i21_127, i21_130, i21_133, i21_134, i21_137, i21_138, i21_139, i21_140, i21_141, i21_144, i21_145, i21_146, i21_147, i21_148, i21_149, i21_150, nl_i, nl_r, nl_0, nl_j, nb0, nb1, nbI, orv_s, konN_v, konN_n, konN_e, true_and, and_true, and_self, if_true, if_false, ite_true, ite_false, isR_ref, true_or, or_true, isR_null, rg10, rg11, rg12, rg13, rg14, rg15, rg16, rh13, rh14, rh15, rh16, k_l0 hb, k_l1 hb, k_l2 hb, k_l3 hb, k_l4 hb, k_l5 hb, k_l6 hb, k_l7 hb, k_l8 hb, k_l9 hb, k_l10 hb, l_l1 hb, l_l2 hb, l_l3 hb, l_l4 hb, l_l5 hb, l_l6 hb, l_l7 hb, l_l8 hb, l_l9 hb, l_l10 hb, a_l1 hb, a_l2 hb, a_l3 hb, a_l4 hb, a_l5 hb, a_l6 hb, a_l7 hb, a_l8 hb, a_l9 hb, a_l10 hb, wa_l1 hb, wa_l2 hb, wa_l3 hb, wa_l4 hb, wa_l5 hb, wa_l6 hb, wa_l7 hb, wa_l8 hb, wa_l9 hb, wa_l10 hb, f_l0 hb, f_l1 hb, f_l2 hb, f_l3 hb, f_l4 hb, f_l5 hb, f_l6 hb, f_l7 hb, f_l8 hb, f_l9 hb, f_l10 hb, f_l11 hb, f_l12 hb, f_l13 hb, f_l14 hb, w_l0 hb, w_l1 hb, w_l2 hb, w_l3 hb, w_l4 hb, pS_b, pS_up, pA_1, pA_2, pA_3, pA_4, pA_5, pA_6, pA_7, pA_8, pA_9, pA_10, pU_1, pU_2, pU_3, pU_4, pU_5, pU_6, pU_7, pU_8, pU_9, pU_10, mh_N, mh_S, mh_X, mh_alH, s_isThickness, bI_t h1, i1z, hi, ht, su_k hs, su_f8 hs, su_f9 hs, su_f2 hs, su_k6 hs, su_k7 hs, su_l6 hs, su_l7 hs, su_a6 hs, su_a7 hs, s_learn hb h1.1 h1.2, upf_ne _ _ (show ¬ (7 : Nat) = 6 by decide), upf_ne _ _ (show ¬ (8 : Nat) = 6 by decide), upf_ne _ _ (show ¬ (9 : Nat) = 6 by decide)]
    simp only [← Int32.not_lt]
    by_cases c1 : sa 6 (zn (a 4 (zn x))) = -1
    · by_cases d1 : sa 7 (zn (a 4 (zn x))) = -1
      · simp only [c1, d1, if_true, not_true, false_and, if_false]
      · by_cases d2 : sa 7 (zn (a 4 (zn x))) < a 5 (zn x)
        · simp only [c1, d1, d2, if_true, not_true, false_and, if_false, not_false_eq_true, true_and]
        · simp only [c1, d1, d2, if_true, not_true, false_and, if_false, not_false_eq_true, and_false]
    · by_cases c2 : a 5 (zn x) < sa 6 (zn (a 4 (zn x)))
      · simp only [c1, c2, if_true, not_true, not_false_eq_true, and_self, if_false]
      · by_cases d1 : sa 7 (zn (a 4 (zn x))) = -1
        · simp only [c1, c2, d1, if_true, not_true, false_and, and_false, if_false, not_false_eq_true]
        · by_cases d2 : sa 7 (zn (a 4 (zn x))) < a 5 (zn x)
          · simp only [c1, c2, d1, d2, if_true, not_true, and_self, and_false, if_false, not_false_eq_true]
          · simp only [c1, c2, d1, d2, if_true, and_false, if_false, not_false_eq_true]
  · rw [if_neg h1]
    simp only [in21, i21_0, i21_1, i21_4, i21_5, i21_6, i21_7, i21_8, i21_11, i21_14, i21_15, i21_16, i21_19, i21_22, i21_23, i21_24, i21_25, i21_26, i21_29, i21_32, i21_33, i21_34, i21_36, i21_37, i21_40, i21_41, i21_42, i21_44, i21_45, i21_46, i21_49, i21_51, i21_52, i21_55, i21_56, i21_59, i21_60, i21_61, i21_62, i21_63, i21_66, i21_67, i21_68, i21_69, i21_70, i21_71, i21_72, i21_73, i21_74, i21_75, i21_78, i21_81, i21_84, i21_87, i21_89, i21_90, i21_93, i21_95, i21_97, i21_100, i21_101, i21_104, i21_105, i21_106, i21_107, i21_108, i21_111, i21_112, i21_113, i21_114, i21_115, i21_116, i21_117, i21_118, i21_119, i21_120, i21_123, i21_126, i21_127, i21_130, i21_133, i21_134, i21_137, i21_138, i21_139, i21_140, i21_141, i21_144, i21_145, i21_146, i21_147, i21_148, i21_149, i21_150, nl_i, nl_r, nl_0, nl_j, nb0, nb1, nbI, orv_s, konN_v, konN_n, konN_e, true_and, and_true, and_self, if_true, if_false, ite_true, ite_false, isR_ref, true_or, or_true, isR_null, rg10, rg11, rg12, rg13, rg14, rg15, rg16, rh13, rh14, rh15, rh16, k_l0 hb, k_l1 hb, k_l2 hb, k_l3 hb, k_l4 hb, k_l5 hb, k_l6 hb, k_l7 hb, k_l8 hb, k_l9 hb, k_l10 hb, l_l1 hb, l_l2 hb, l_l3 hb, l_l4 hb, l_l5 hb, l_l6 hb, l_l7 hb, l_l8 hb, l_l9 hb, l_l10 hb, a_l1 hb, a_l2 hb, a_l3 hb, a_l4 hb, a_l5 hb, a_l6 hb, a_l7 hb, a_l8 hb, a_l9 hb, a_l10 hb, wa_l1 hb, wa_l2 hb, wa_l3 hb, wa_l4 hb, wa_l5 hb, wa_l6 hb, wa_l7 hb, wa_l8 hb, wa_l9 hb, wa_l10 hb, f_l0 hb, f_l1 hb, f_l2 hb, f_l3 hb, f_l4 hb, f_l5 hb, f_l6 hb, f_l7 hb, f_l8 hb, f_l9 hb, f_l10 hb, f_l11 hb, f_l12 hb, f_l13 hb, f_l14 hb, w_l0 hb, w_l1 hb, w_l2 hb, w_l3 hb, w_l4 hb, pS_b, pS_up, pA_1, pA_2, pA_3, pA_4, pA_5, pA_6, pA_7, pA_8, pA_9, pA_10, pU_1, pU_2, pU_3, pU_4, pU_5, pU_6, pU_7, pU_8, pU_9, pU_10, mh_N, mh_S, mh_X, mh_alH, s_isThickness, bI_f h1, hi]
theorem s_moveToQuench (hb : isLine b = true) (hs : SUp h T (G b) t q sa n pg) (hn : zn (f 2) ≤ 20) (hx : 0 ≤ x ∧ x < f 2) (hk : k < 6) : EvM d 25 [.ref b, .int (nI k), .int x] (MH h T U (pS S b f) (pA A b a) J G) K = K (.inl none) (MH h T U (pS S b (toQuF q k x (f, a)).1) (pA A b (toQuF q k x (f, a)).2) J G) := by
  have hi : inb x 20 = True := inb_sh hx.1 hx.2 hn
  unfold toQuF
  simp only [in25, i25_0, i25_1, i25_4, i25_5, i25_8, i25_9, i25_12, i25_13, i25_14, i25_15, i25_16, i25_17, i25_20, i25_21, i25_22, i25_25, i25_26, i25_27, i25_28, i25_31, i25_34, i25_35, i25_38, i25_39, i25_42, i25_43, i25_44, i25_45, nl_i, nl_r, nl_0, nl_j, nb0, nb1, nbI, orv_s, konN_v, konN_n, konN_e, true_and, and_true, and_self, if_true, if_false, ite_true, ite_false, isR_ref, true_or, or_true, isR_null, rg10, rg11, rg12, rg13, rg14, rg15, rg16, rh13, rh14, rh15, rh16, k_l0 hb, k_l1 hb, k_l2 hb, k_l3 hb, k_l4 hb, k_l5 hb, k_l6 hb, k_l7 hb, k_l8 hb, k_l9 hb, k_l10 hb, l_l1 hb, l_l2 hb, l_l3 hb, l_l4 hb, l_l5 hb, l_l6 hb, l_l7 hb, l_l8 hb, l_l9 hb, l_l10 hb, a_l1 hb, a_l2 hb, a_l3 hb, a_l4 hb, a_l5 hb, a_l6 hb, a_l7 hb, a_l8 hb, a_l9 hb, a_l10 hb, wa_l1 hb, wa_l2 hb, wa_l3 hb, wa_l4 hb, wa_l5 hb, wa_l6 hb, wa_l7 hb, wa_l8 hb, wa_l9 hb, wa_l10 hb, f_l0 hb, f_l1 hb, f_l2 hb, f_l3 hb, f_l4 hb, f_l5 hb, f_l6 hb, f_l7 hb, f_l8 hb, f_l9 hb, f_l10 hb, f_l11 hb, f_l12 hb, f_l13 hb, f_l14 hb, w_l0 hb, w_l1 hb, w_l2 hb, w_l3 hb, w_l4 hb, pS_b, pS_up, pA_1, pA_2, pA_3, pA_4, pA_5, pA_6, pA_7, pA_8, pA_9, pA_10, pU_1, pU_2, pU_3, pU_4, pU_5, pU_6, pU_7, pU_8, pU_9, pU_10, mh_N, mh_S, mh_X, mh_alH, su_k hs, su_f1 hs, inbT hk (show 6 < 2 ^ 31 by omega), nI_clamp (show k < 2 ^ 31 by omega), hi, upf_ne _ _ (show ¬ (4 : Nat) = 3 by decide), upf_ne _ _ (show ¬ (6 : Nat) = 3 by decide)]
  split <;> rfl
theorem s_moveToNext (hb : isLine b = true) (hs : SUp h T (G b) t q sa n pg) (hk : k < 6) : EvM d 26 [.ref b, .int (nI k), .int x] (MH h T U (pS S b f) (pA A b a) J G) K = K (.inl none) (MH h T U (pS S b f) (pA A b (toNxF q k x a)) J G) := by
  have h6 : zn (q 0) ≤ 6 := hs.2.2.2.2.2.2.1.2
  unfold toNxF
  simp only [in26, i26_0, i26_1, i26_2, i26_3, i26_4, i26_5, i26_6, i26_9, i26_12, i26_15, i26_16, i26_19, i26_20, i26_21, i26_22, i26_25, i26_26, i26_29, i26_30, i26_31, i26_32, i26_33, i26_36, i26_37, i26_38, i26_39, nl_i, nl_r, nl_0, nl_j, nb0, nb1, nbI, orv_s, konN_v, konN_n, konN_e, true_and, and_true, and_self, if_true, if_false, ite_true, ite_false, isR_ref, true_or, or_true, isR_null, rg10, rg11, rg12, rg13, rg14, rg15, rg16, rh13, rh14, rh15, rh16, k_l0 hb, k_l1 hb, k_l2 hb, k_l3 hb, k_l4 hb, k_l5 hb, k_l6 hb, k_l7 hb, k_l8 hb, k_l9 hb, k_l10 hb, l_l1 hb, l_l2 hb, l_l3 hb, l_l4 hb, l_l5 hb, l_l6 hb, l_l7 hb, l_l8 hb, l_l9 hb, l_l10 hb, a_l1 hb, a_l2 hb, a_l3 hb, a_l4 hb, a_l5 hb, a_l6 hb, a_l7 hb, a_l8 hb, a_l9 hb, a_l10 hb, wa_l1 hb, wa_l2 hb, wa_l3 hb, wa_l4 hb, wa_l5 hb, wa_l6 hb, wa_l7 hb, wa_l8 hb, wa_l9 hb, wa_l10 hb, f_l0 hb, f_l1 hb, f_l2 hb, f_l3 hb, f_l4 hb, f_l5 hb, f_l6 hb, f_l7 hb, f_l8 hb, f_l9 hb, f_l10 hb, f_l11 hb, f_l12 hb, f_l13 hb, f_l14 hb, w_l0 hb, w_l1 hb, w_l2 hb, w_l3 hb, w_l4 hb, pS_b, pS_up, pA_1, pA_2, pA_3, pA_4, pA_5, pA_6, pA_7, pA_8, pA_9, pA_10, pU_1, pU_2, pU_3, pU_4, pU_5, pU_6, pU_7, pU_8, pU_9, pU_10, mh_N, mh_S, mh_X, mh_alH, su_k hs, su_f0 hs, ← nI_succ, nI_le_zn (show k + 1 < 2 ^ 31 by omega)]
  by_cases h1 : k + 1 < zn (q 0)
  · simp only [h1, not_true, if_false, true_and, inbT (show k + 1 < 6 by omega) (show 6 < 2 ^ 31 by omega), inbT hk (show 6 < 2 ^ 31 by omega), nI_clamp (show k < 2 ^ 31 by omega), nI_clamp (show k + 1 < 2 ^ 31 by omega), upf_same, upf_upf]
    split <;> rfl
  · simp only [h1, not_false_eq_true, if_true, false_and, if_false]
theorem s_moveSheetFrom (hb : isLine b = true) (hs : SUp h T (G b) t q sa n pg) (hn : zn (f 2) ≤ 20) (hk : k < 6) : EvM (d + 3) 23 [.ref b, .int (nI k)] (MH h T U (pS S b f) (pA A b a) J G) K = K (.inl none) (MH h T U (pS S b (moveF sa q k (f, a)).1) (pA A b (moveF sa q k (f, a)).2) J G) := by
  unfold moveF
  dsimp only
  by_cases h1 : 0 ≤ a 3 k ∧ a 3 k < f 2
  · have hi : inb (a 3 k) 20 = True := inb_sh h1.1 h1.2 hn
    rw [if_pos h1]
    by_cases h2 : nI k = q 0 - 1
    · simp only [in23, i23_0, i23_1, i23_4, i23_5, i23_6, i23_7, i23_8, i23_9, i23_12, i23_15, i23_16, i23_17, i23_18, i23_21, i23_24, i23_25, i23_26, i23_29, i23_30, i23_33, i23_34, i23_35, i23_36, i23_39, i23_40, i23_41, i23_44, i23_45, i23_46, i23_49, i23_52, i23_53, i23_55, i23_56, i23_59, i23_60, i23_61, i23_63, i23_65, i23_66, i23_69, i23_72, i23_73, i23_74, i23_76, i23_77, i23_80, i23_81, i23_82, i23_85, i23_88, i23_90, i23_91, i23_94, i23_97, i23_98, i23_99, i23_101, i23_102, i23_105, i23_106, i23_109, i23_110, i23_111, i23_112, i23_115, i23_118, i23_119, i23_120, i23_121, i23_124, nl_i, nl_r, nl_0, nl_j, nb0, nb1, nbI, orv_s, konN_v, konN_n, konN_e, true_and, and_true, and_self, if_true, if_false, ite_true, ite_false, isR_ref, true_or, or_true, isR_null, rg10, rg11, rg12, rg13, rg14, rg15, rg16, rh13, rh14, rh15, rh16, k_l0 hb, k_l1 hb, k_l2 hb, k_l3 hb, k_l4 hb, k_l5 hb, k_l6 hb, k_l7 hb, k_l8 hb, k_l9 hb, k_l10 hb, l_l1 hb, l_l2 hb, l_l3 hb, l_l4 hb, l_l5 hb, l_l6 hb, l_l7 hb, l_l8 hb, l_l9 hb, l_l10 hb, a_l1 hb, a_l2 hb, a_l3 hb, a_l4 hb, a_l5 hb, a_l6 hb, a_l7 hb, a_l8 hb, a_l9 hb, a_l10 hb, wa_l1 hb, wa_l2 hb, wa_l3 hb, wa_l4 hb, wa_l5 hb, wa_l6 hb, wa_l7 hb, wa_l8 hb, wa_l9 hb, wa_l10 hb, f_l0 hb, f_l1 hb, f_l2 hb, f_l3 hb, f_l4 hb, f_l5 hb, f_l6 hb, f_l7 hb, f_l8 hb, f_l9 hb, f_l10 hb, f_l11 hb, f_l12 hb, f_l13 hb, f_l14 hb, w_l0 hb, w_l1 hb, w_l2 hb, w_l3 hb, w_l4 hb, pS_b, pS_up, pA_1, pA_2, pA_3, pA_4, pA_5, pA_6, pA_7, pA_8, pA_9, pA_10, pU_1, pU_2, pU_3, pU_4, pU_5, pU_6, pU_7, pU_8, pU_9, pU_10, mh_N, mh_S, mh_X, mh_alH, s_isSheet hb, bI_t h1, i1z, hi, h2.symm, if_true, inbT hk (show 6 < 2 ^ 31 by omega), nI_clamp (show k < 2 ^ 31 by omega), su_k hs, su_f0 hs, su_f6 hs, su_f7 hs, su_k4 hs, su_k5 hs, su_l4 hs, su_l5 hs, su_a4 hs, su_a5 hs, s_correctionFor hb, s_spoil hb hs h1.1 h1.2 hn, s_moveToQuench hb hs hn h1 hk, s_moveToNext hb hs hk]
      by_cases e1 : sa 5 k + corF a (a 4 (zn (a 3 k))) < a 5 (zn (a 3 k))
      · rw [if_neg (Int32.not_le.mpr e1)]
        simp only [e1, if_true]
      · rw [if_pos (Int32.not_lt.mp e1)]
        by_cases e2 : sa 4 k + corF a (a 4 (zn (a 3 k))) ≤ a 5 (zn (a 3 k))
        · rw [if_neg (Int32.not_lt.mpr e2)]
          simp only [e1, e2, if_true, if_false]
        · rw [if_pos (Int32.not_le.mp e2)]
          simp only [e1, e2, if_false]
    · simp only [in23, i23_0, i23_1, i23_4, i23_5, i23_6, i23_7, i23_8, i23_9, i23_12, i23_15, i23_16, i23_17, i23_18, i23_21, i23_24, i23_25, i23_26, i23_29, i23_30, i23_33, i23_34, i23_35, i23_36, i23_39, i23_40, i23_41, i23_44, i23_45, i23_46, i23_49, i23_52, i23_53, i23_55, i23_56, i23_59, i23_60, i23_61, i23_63, i23_65, i23_66, i23_69, i23_72, i23_73, i23_74, i23_76, i23_77, i23_80, i23_81, i23_82, i23_85, i23_88, i23_90, i23_91, i23_94, i23_97, i23_98, i23_99, i23_101, i23_102, i23_105, i23_106, i23_109, i23_110, i23_111, i23_112, i23_115, i23_118, i23_119, i23_120, i23_121, i23_124, nl_i, nl_r, nl_0, nl_j, nb0, nb1, nbI, orv_s, konN_v, konN_n, konN_e, true_and, and_true, and_self, if_true, if_false, ite_true, ite_false, isR_ref, true_or, or_true, isR_null, rg10, rg11, rg12, rg13, rg14, rg15, rg16, rh13, rh14, rh15, rh16, k_l0 hb, k_l1 hb, k_l2 hb, k_l3 hb, k_l4 hb, k_l5 hb, k_l6 hb, k_l7 hb, k_l8 hb, k_l9 hb, k_l10 hb, l_l1 hb, l_l2 hb, l_l3 hb, l_l4 hb, l_l5 hb, l_l6 hb, l_l7 hb, l_l8 hb, l_l9 hb, l_l10 hb, a_l1 hb, a_l2 hb, a_l3 hb, a_l4 hb, a_l5 hb, a_l6 hb, a_l7 hb, a_l8 hb, a_l9 hb, a_l10 hb, wa_l1 hb, wa_l2 hb, wa_l3 hb, wa_l4 hb, wa_l5 hb, wa_l6 hb, wa_l7 hb, wa_l8 hb, wa_l9 hb, wa_l10 hb, f_l0 hb, f_l1 hb, f_l2 hb, f_l3 hb, f_l4 hb, f_l5 hb, f_l6 hb, f_l7 hb, f_l8 hb, f_l9 hb, f_l10 hb, f_l11 hb, f_l12 hb, f_l13 hb, f_l14 hb, w_l0 hb, w_l1 hb, w_l2 hb, w_l3 hb, w_l4 hb, pS_b, pS_up, pA_1, pA_2, pA_3, pA_4, pA_5, pA_6, pA_7, pA_8, pA_9, pA_10, pU_1, pU_2, pU_3, pU_4, pU_5, pU_6, pU_7, pU_8, pU_9, pU_10, mh_N, mh_S, mh_X, mh_alH, s_isSheet hb, bI_t h1, i1z, hi, h2, if_true, inbT hk (show 6 < 2 ^ 31 by omega), nI_clamp (show k < 2 ^ 31 by omega), su_k hs, su_f0 hs, su_f6 hs, su_f7 hs, su_k4 hs, su_k5 hs, su_l4 hs, su_l5 hs, su_a4 hs, su_a5 hs, s_correctionFor hb, s_spoil hb hs h1.1 h1.2 hn, s_moveToQuench hb hs hn h1 hk, s_moveToNext hb hs hk]
      by_cases e1 : sa 5 k + 0 < a 5 (zn (a 3 k))
      · rw [if_neg (Int32.not_le.mpr e1)]
        simp only [e1, if_true]
      · rw [if_pos (Int32.not_lt.mp e1)]
        by_cases e2 : sa 4 k + 0 ≤ a 5 (zn (a 3 k))
        · rw [if_neg (Int32.not_lt.mpr e2)]
          simp only [e1, e2, if_true, if_false]
        · rw [if_pos (Int32.not_le.mp e2)]
          simp only [e1, e2, if_false]
  · rw [if_neg h1]
    simp only [in23, i23_0, i23_1, i23_4, i23_5, i23_6, i23_7, i23_8, i23_9, i23_12, i23_15, i23_16, i23_17, i23_18, i23_21, i23_24, i23_25, i23_26, i23_29, i23_30, i23_33, i23_34, i23_35, i23_36, i23_39, i23_40, i23_41, i23_44, i23_45, i23_46, i23_49, i23_52, i23_53, i23_55, i23_56, i23_59, i23_60, i23_61, i23_63, i23_65, i23_66, i23_69, i23_72, i23_73, i23_74, i23_76, i23_77, i23_80, i23_81, i23_82, i23_85, i23_88, i23_90, i23_91, i23_94, i23_97, i23_98, i23_99, i23_101, i23_102, i23_105, i23_106, i23_109, i23_110, i23_111, i23_112, i23_115, i23_118, i23_119, i23_120, i23_121, i23_124, nl_i, nl_r, nl_0, nl_j, nb0, nb1, nbI, orv_s, konN_v, konN_n, konN_e, true_and, and_true, and_self, if_true, if_false, ite_true, ite_false, isR_ref, true_or, or_true, isR_null, rg10, rg11, rg12, rg13, rg14, rg15, rg16, rh13, rh14, rh15, rh16, k_l0 hb, k_l1 hb, k_l2 hb, k_l3 hb, k_l4 hb, k_l5 hb, k_l6 hb, k_l7 hb, k_l8 hb, k_l9 hb, k_l10 hb, l_l1 hb, l_l2 hb, l_l3 hb, l_l4 hb, l_l5 hb, l_l6 hb, l_l7 hb, l_l8 hb, l_l9 hb, l_l10 hb, a_l1 hb, a_l2 hb, a_l3 hb, a_l4 hb, a_l5 hb, a_l6 hb, a_l7 hb, a_l8 hb, a_l9 hb, a_l10 hb, wa_l1 hb, wa_l2 hb, wa_l3 hb, wa_l4 hb, wa_l5 hb, wa_l6 hb, wa_l7 hb, wa_l8 hb, wa_l9 hb, wa_l10 hb, f_l0 hb, f_l1 hb, f_l2 hb, f_l3 hb, f_l4 hb, f_l5 hb, f_l6 hb, f_l7 hb, f_l8 hb, f_l9 hb, f_l10 hb, f_l11 hb, f_l12 hb, f_l13 hb, f_l14 hb, w_l0 hb, w_l1 hb, w_l2 hb, w_l3 hb, w_l4 hb, pS_b, pS_up, pA_1, pA_2, pA_3, pA_4, pA_5, pA_6, pA_7, pA_8, pA_9, pA_10, pU_1, pU_2, pU_3, pU_4, pU_5, pU_6, pU_7, pU_8, pU_9, pU_10, mh_N, mh_S, mh_X, mh_alH, s_isSheet hb, bI_f h1, inbT hk (show 6 < 2 ^ 31 by omega), nI_clamp (show k < 2 ^ 31 by omega)]
end JG
