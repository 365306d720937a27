/-! READING: words and numbers, as the class sees them -/
def nmC (g : Nat → Int32) : Nat → Nat → Int32 → Int32
  | 0, _, v => v
  | m + 1, p, v => nmC g m (p + 1) (if 10 * v + (g p - 48) < 100000 then 10 * v + (g p - 48) else 100000)
def eqF (w : List Int32) (g : Nat → Int32) (p : Nat) : Nat → Nat → Bool
  | _, 0 => true
  | j, m + 1 => decide (g (p + j) = w.getD j 0) && eqF w g p (j + 1) m
/-- is the token at p the k-th literal? -/
def wdB (g : Nat → Int32) (n p k : Nat) : Bool := decide (kdT g n p = 2) && (decide (teT g n p = p + lenJ.getD k 0) && eqF (bytJ.getD k []) g p 0 (lenJ.getD k 0))
theorem isRL {k : Nat} (hk6 : k < 17) : (isR (litV k) = true) = True := by
  refine eq_true ?_
  show decide ((UInt32.ofNat (2 * k + 2)).toNat ≠ 1) = true
  rw [litV_n hk6, decide_eq_true_eq]
  omega
theorem isRB {k : Nat} (hk6 : k < 17) : (isR (litB k) = true) = True := by
  refine eq_true ?_
  show decide ((UInt32.ofNat (2 * k + 3)).toNat ≠ 1) = true
  rw [litB_n hk6, decide_eq_true_eq]
  omega
theorem recvL {hh : AH} {k : Nat} (hk6 : k < 17) : (recv hh 11 (some (litV k)) = true) = True := by
  refine eq_true ?_
  show (decide (11 = 11) && (decide ((UInt32.ofNat (2 * k + 2)).toNat % 2 = 0) && (decide (2 ≤ (UInt32.ofNat (2 * k + 2)).toNat) && decide ((UInt32.ofNat (2 * k + 2)).toNat < 36)))) = true
  rw [litV_n hk6, decide_eq_true (show (2 * k + 2) % 2 = 0 by omega), decide_eq_true (show 2 ≤ 2 * k + 2 by omega), decide_eq_true (show 2 * k + 2 < 36 by omega)]
  rfl
theorem nl_L {k : Nat} : nl (some (litV k)) = some (litV k) := rfl
theorem lenJ_le : ∀ k, k < 17 → lenJ.getD k 0 ≤ 9 ∧ 0 ≤ lenJ.getD k 0 := by decide
theorem lenJ_sh : ∀ k, k < 17 → nI (lenJ.getD k 0) >>> ((0 : Int32) &&& 31) = nI (lenJ.getD k 0) := by decide +kernel
theorem chJ1 : ∀ k, k < 17 → ∀ j, j < 9 → j < lenJ.getD k 0 → ((((bytJ.getD k []).getD j 0) &&& 255).toUInt32 % 65536).toInt32 = (bytJ.getD k []).getD j 0 := by decide +kernel
theorem chJ2 : ∀ k, k < 17 → ∀ j, j < 9 → j < lenJ.getD k 0 → ((bytJ.getD k []).getD j 0).toUInt32.toUInt16.toUInt32.toInt32 = (bytJ.getD k []).getD j 0 := by decide +kernel
theorem nby0 : (narrow .byte (.int 0) = .int 0) = True := eq_true rfl
theorem wdB_lt {g : Nat → Int32} {n p k : Nat} (h : wdB g n p k = true) : kdT g n p = 2 ∧ teT g n p = p + lenJ.getD k 0 := by
  unfold wdB at h
  simp only [Bool.and_eq_true, decide_eq_true_eq] at h
  exact ⟨h.1, h.2.1⟩
section R1
variable {d : Nat} {hh : AH} {h : AH} {T : Nat → Bool} {U S A : Nat → Nat → Int32} {J : Nat → Nat → Int64} {G : Nat → Nat} {K : AO → AH → Prop} {g r : Nat → Int32} {n p e k j : Nat} {x y z w nu ec hs lo hi : Int32} {sc : Nat}
theorem s_coder (hk6 : k < 17) : EvM d 115 [litV k] hh K = K (.inl (some (.int 0))) hh := by
  simp only [in115, in115_r, i115_0, i115_3, i115_6, i115_7_r, i115_7, i115_10, i115_13, i115_14, nl_i, nl_r, nl_0, nl_j, nb0, nb1, nbI, orv_s, konN_v, konN_n, konN_e, true_and, and_true, and_self, if_true, if_false, ite_true, ite_false, isR_ref, true_or, or_true, isR_null, rg10, rg11, rg12, rg13, rg14, rg15, rg16, rh13, rh14, rh15, rh16, bI_T, bI_F, bI_Fb, i1z, Bool.false_eq_true, isRL hk6, hk6, nby0, i1z]
theorem s_latin (hk6 : k < 17) : EvM d 116 [litV k] hh K = K (.inl (some (.int 1))) hh := by
  simp only [in116, in116_r, i116_0, i116_3, i116_6, i116_7_r, i116_7, i116_10, i116_13, i116_14, i116_17, i116_18, nl_i, nl_r, nl_0, nl_j, nb0, nb1, nbI, orv_s, konN_v, konN_n, konN_e, true_and, and_true, and_self, if_true, if_false, ite_true, ite_false, isR_ref, true_or, or_true, isR_null, rg10, rg11, rg12, rg13, rg14, rg15, rg16, rh13, rh14, rh15, rh16, bI_T, bI_F, bI_Fb, i1z, Bool.false_eq_true, isRL hk6, hk6, i1z]
theorem s_length (hk6 : k < 17) : EvM (d + 1) 111 [litV k] hh K = K (.inl (some (.int (nI (lenJ.getD k 0))))) hh := by
  simp only [in111, in111_r, i111_0, i111_1_r, i111_1, i111_4_r, i111_4, i111_5, i111_6, i111_9, i111_10, nl_i, nl_r, nl_0, nl_j, nb0, nb1, nbI, orv_s, konN_v, konN_n, konN_e, true_and, and_true, and_self, if_true, if_false, ite_true, ite_false, isR_ref, true_or, or_true, isR_null, rg10, rg11, rg12, rg13, rg14, rg15, rg16, rh13, rh14, rh15, rh16, bI_T, bI_F, bI_Fb, i1z, Bool.false_eq_true, isRL hk6, isRB hk6, recvL hk6, hk6, s_coder hk6, lenJ_sh k hk6]
theorem s_charAt (hk6 : k < 17) (hj : j < lenJ.getD k 0) : EvM (d + 3) 112 [litV k, .int (nI j)] hh K = K (.inl (some (.int ((bytJ.getD k []).getD j 0)))) hh := by
  have hl := lenJ_le k hk6
  have c1 := chJ1 k hk6 j (by omega) hj
  have c2 : (narrow .char (.int ((bytJ.getD k []).getD j 0)) = .int ((bytJ.getD k []).getD j 0)) = True := eq_true (congrArg Value.int (chJ2 k hk6 j (by omega) hj))
  simp only [in112, in112_r, i112_0, i112_1, i112_4, i112_7, i112_8_r, i112_8, i112_11, i112_12, i112_15, i112_16, i112_17_r, i112_17, i112_20, in143, in143_r, i143_0, i143_1, i143_2_r, i143_2, i143_3, i143_6, i143_7, i143_8_r, i143_8, i143_9, i143_12, i143_13, i143_14, in117, i117_0, i117_1, i117_2, i117_5, i117_8, i117_9, in144, i144_0, i144_1, i144_4, i144_5, i144_6, i144_9, i144_10, i144_11, i144_16, i144_17, nl_i, nl_r, nl_0, nl_j, nb0, nb1, nbI, orv_s, konN_v, konN_n, konN_e, true_and, and_true, and_self, if_true, if_false, ite_true, ite_false, isR_ref, true_or, or_true, isR_null, rg10, rg11, rg12, rg13, rg14, rg15, rg16, rh13, rh14, rh15, rh16, bI_T, bI_F, bI_Fb, i1z, Bool.false_eq_true, isRL hk6, isRB hk6, recvL hk6, hk6, s_latin hk6, i1z, eq_false (nI_pos (show j < 2 ^ 31 by omega)), nI_lt_zn (show j < 2 ^ 31 by omega), zn_nI (show lenJ.getD k 0 < 2 ^ 31 by omega), zn_nI (show j < 2 ^ 31 by omega), hj, inbT hj (show lenJ.getD k 0 < 2 ^ 31 by omega), c1, c2]
theorem s_wi_loop (hk6 : k < 17) (hg : A 14 = g) (hn : n ≤ 700) (hp : p + lenJ.getD k 0 ≤ n) : ∀ m j, j + m = lenJ.getD k 0 → Ev (d + 4) 47 28 [some (.ref 13), some (litV k), some (.int (nI j))] [] (MH h T U (pS S 13 (rd g n p nu ec hs sc)) A J G) K = K (.inl (some (.int (bI (eqF (bytJ.getD k []) g p j m = true))))) (MH h T U (pS S 13 (rd g n p nu ec hs sc)) A J G)
  | 0, j, hj => by
    have hl := lenJ_le k hk6
    rw [i47_28]
    simp only [i47_29, i47_30, i47_33, i47_36, i47_37, i47_40, i47_41, i47_44, i47_45, i47_46, i47_47, i47_48, i47_49, i47_52, i47_55, i47_56, i47_57, i47_60, i47_63, i47_64, nl_i, nl_r, nl_0, nl_j, nb0, nb1, nbI, orv_s, konN_v, konN_n, konN_e, true_and, and_true, and_self, if_true, if_false, ite_true, ite_false, isR_ref, true_or, or_true, isR_null, rg10, rg11, rg12, rg13, rg14, rg15, rg16, rh13, rh14, rh15, rh16, bI_T, bI_F, bI_Fb, i1z, Bool.false_eq_true, k_13, k_14, l_14, a_14, wa_14, k_15, l_15, a_15, wa_15, f_13_0, f_13_9, f_13_11, w_13_9, f_13_1, f_13_2, f_13_3, f_13_4, f_13_5, f_13_6, f_13_7, f_13_8, f_13_10, f_13_12, w_13_1, w_13_2, w_13_3, w_13_4, w_13_5, w_13_6, w_13_7, w_13_8, w_13_10, w_13_12, pS_b, pS_up, mh_N, mh_S, mh_X, mh_alH, isRL hk6, recvL hk6, nl_L, s_length hk6, nI_le_zn (show j < 2 ^ 31 by omega), zn_nI (show lenJ.getD k 0 < 2 ^ 31 by omega), show ¬ j < lenJ.getD k 0 by omega, not_false_eq_true, eqF]
    all_goals rfl
  | m + 1, j, hj => by
    have hl := lenJ_le k hk6
    have hjl : j < lenJ.getD k 0 := by omega
    have ih := s_wi_loop hk6 hg hn hp m (j + 1) (by omega)
    rw [i47_28]
    simp only [i47_29, i47_30, i47_33, i47_36, i47_37, i47_40, i47_41, i47_44, i47_45, i47_46, i47_47, i47_48, i47_49, i47_52, i47_55, i47_56, i47_57, i47_60, i47_63, i47_64, nl_i, nl_r, nl_0, nl_j, nb0, nb1, nbI, orv_s, konN_v, konN_n, konN_e, true_and, and_true, and_self, if_true, if_false, ite_true, ite_false, isR_ref, true_or, or_true, isR_null, rg10, rg11, rg12, rg13, rg14, rg15, rg16, rh13, rh14, rh15, rh16, bI_T, bI_F, bI_Fb, i1z, Bool.false_eq_true, k_13, k_14, l_14, a_14, wa_14, k_15, l_15, a_15, wa_15, f_13_0, f_13_9, f_13_11, w_13_9, f_13_1, f_13_2, f_13_3, f_13_4, f_13_5, f_13_6, f_13_7, f_13_8, f_13_10, f_13_12, w_13_1, w_13_2, w_13_3, w_13_4, w_13_5, w_13_6, w_13_7, w_13_8, w_13_10, w_13_12, pS_b, pS_up, mh_N, mh_S, mh_X, mh_alH, rd_4, hg, isRL hk6, recvL hk6, nl_L, s_length hk6, s_charAt hk6 hjl, nI_le_zn (show j < 2 ^ 31 by omega), zn_nI (show lenJ.getD k 0 < 2 ^ 31 by omega), hjl, not_true, nI_add, inbT (show p + j < 700 by omega) (show 700 < 2 ^ 31 by omega), zn_nI (show p + j < 2 ^ 31 by omega), nI_1, ih, eqF]
    by_cases h1 : g (p + j) = (bytJ.getD k []).getD j 0
    · simp only [h1, if_true, decide_true, Bool.true_and]
    · simp only [h1, if_false, decide_false, Bool.false_and]
      all_goals rfl
theorem nI_sub {a b : Nat} (h : b ≤ a) : nI a - nI b = nI (a - b) := by
  obtain ⟨c, rfl⟩ : ∃ c, a = b + c := ⟨a - b, by omega⟩
  rw [show b + c - b = c by omega, ← nI_add, Int32.add_comm, Int32.add_sub_cancel]
theorem s_wordIs (hk6 : k < 17) (hg : A 14 = g) (hn : n ≤ 700) (hp : p ≤ n) : EvM (d + 4) 47 [.ref 13, litV k] (MH h T U (pS S 13 (rd g n p nu ec hs sc)) A J G) K = K (.inl (some (.int (bI (wdB g n p k = true))))) (MH h T U (pS S 13 (rd g n p nu ec hs sc)) A J G) := by
  have hl := lenJ_le k hk6
  have ht := teT_le (g := g) hp
  unfold wdB
  by_cases h1 : kdT g n p = 2
  · by_cases h2 : teT g n p = p + lenJ.getD k 0
    · have key := s_wi_loop (d := d) (h := h) (T := T) (U := U) (S := S) (J := J) (G := G) (K := K) (nu := nu) (ec := ec) (hs := hs) (sc := sc) hk6 hg hn (show p + lenJ.getD k 0 ≤ n by omega) (lenJ.getD k 0) 0 (by omega)
      rw [nI_0] at key
      simp only [i47_0, i47_1, i47_4, i47_5, i47_8, i47_9, i47_12, i47_13, i47_16, i47_17, i47_18, i47_21, i47_24, i47_25, i47_26, i47_27, in47, nl_i, nl_r, nl_0, nl_j, nb0, nb1, nbI, orv_s, konN_v, konN_n, konN_e, true_and, and_true, and_self, if_true, if_false, ite_true, ite_false, isR_ref, true_or, or_true, isR_null, rg10, rg11, rg12, rg13, rg14, rg15, rg16, rh13, rh14, rh15, rh16, bI_T, bI_F, bI_Fb, i1z, Bool.false_eq_true, k_13, k_14, l_14, a_14, wa_14, k_15, l_15, a_15, wa_15, f_13_0, f_13_9, f_13_11, w_13_9, f_13_1, f_13_2, f_13_3, f_13_4, f_13_5, f_13_6, f_13_7, f_13_8, f_13_10, f_13_12, w_13_1, w_13_2, w_13_3, w_13_4, w_13_5, w_13_6, w_13_7, w_13_8, w_13_10, w_13_12, pS_b, pS_up, mh_N, mh_S, mh_X, mh_alH, rd_3, rd_4, rd_5, h1, h2, isRL hk6, recvL hk6, nl_L, s_length hk6, nI_sub (show p ≤ p + lenJ.getD k 0 by omega), Nat.add_sub_cancel_left, key, decide_true, Bool.true_and]
    · have h3 : ¬ nI (teT g n p - p) = nI (lenJ.getD k 0) := fun z => by
        have := (nI_eq (by omega) (by omega)).mp z
        omega
      simp only [i47_0, i47_1, i47_4, i47_5, i47_8, i47_9, i47_12, i47_13, i47_16, i47_17, i47_18, i47_21, i47_24, i47_25, i47_26, i47_27, in47, nl_i, nl_r, nl_0, nl_j, nb0, nb1, nbI, orv_s, konN_v, konN_n, konN_e, true_and, and_true, and_self, if_true, if_false, ite_true, ite_false, isR_ref, true_or, or_true, isR_null, rg10, rg11, rg12, rg13, rg14, rg15, rg16, rh13, rh14, rh15, rh16, bI_T, bI_F, bI_Fb, i1z, Bool.false_eq_true, k_13, k_14, l_14, a_14, wa_14, k_15, l_15, a_15, wa_15, f_13_0, f_13_9, f_13_11, w_13_9, f_13_1, f_13_2, f_13_3, f_13_4, f_13_5, f_13_6, f_13_7, f_13_8, f_13_10, f_13_12, w_13_1, w_13_2, w_13_3, w_13_4, w_13_5, w_13_6, w_13_7, w_13_8, w_13_10, w_13_12, pS_b, pS_up, mh_N, mh_S, mh_X, mh_alH, rd_3, rd_4, rd_5, h1, isRL hk6, recvL hk6, nl_L, s_length hk6, nI_sub ht.1, h2, h3, decide_true, decide_false, Bool.true_and, Bool.false_and]
      all_goals rfl
  · simp only [i47_0, i47_1, i47_4, i47_5, i47_8, i47_9, i47_12, i47_13, i47_16, i47_17, i47_18, i47_21, i47_24, i47_25, i47_26, i47_27, in47, nl_i, nl_r, nl_0, nl_j, nb0, nb1, nbI, orv_s, konN_v, konN_n, konN_e, true_and, and_true, and_self, if_true, if_false, ite_true, ite_false, isR_ref, true_or, or_true, isR_null, rg10, rg11, rg12, rg13, rg14, rg15, rg16, rh13, rh14, rh15, rh16, bI_T, bI_F, bI_Fb, i1z, Bool.false_eq_true, k_13, k_14, l_14, a_14, wa_14, k_15, l_15, a_15, wa_15, f_13_0, f_13_9, f_13_11, w_13_9, f_13_1, f_13_2, f_13_3, f_13_4, f_13_5, f_13_6, f_13_7, f_13_8, f_13_10, f_13_12, w_13_1, w_13_2, w_13_3, w_13_4, w_13_5, w_13_6, w_13_7, w_13_8, w_13_10, w_13_12, pS_b, pS_up, mh_N, mh_S, mh_X, mh_alH, rd_3, h1, decide_false, Bool.false_and]
    all_goals rfl
theorem s_tn_loop (hg : A 14 = g) (hn : n ≤ 700) (hp : p ≤ n) : ∀ m q v, q + m = teT g n p → Ev (d + 2) 44 23 [some (.ref 13), some (.int lo), some (.int hi), some (.int v), some (.int (nI q))] [] (MH h T U (pS S 13 (rd g n p nu ec hs sc)) A J G) K = Ev (d + 2) 44 59 [some (.ref 13), some (.int lo), some (.int hi), some (.int (nmC g m q v)), some (.int (nI (q + m)))] [] (MH h T U (pS S 13 (rd g n p nu ec hs sc)) A J G) K
  | 0, q, v, hq => by
    have ht := teT_le (g := g) hp
    rw [i44_23]
    simp only [i44_25, i44_26, i44_29, i44_32, i44_34, i44_36, i44_37, i44_38, i44_39, i44_42, i44_44, i44_45, i44_47, i44_48, i44_49, i44_52, i44_53, i44_56, nl_i, nl_r, nl_0, nl_j, nb0, nb1, nbI, orv_s, konN_v, konN_n, konN_e, true_and, and_true, and_self, if_true, if_false, ite_true, ite_false, isR_ref, true_or, or_true, isR_null, rg10, rg11, rg12, rg13, rg14, rg15, rg16, rh13, rh14, rh15, rh16, bI_T, bI_F, bI_Fb, i1z, Bool.false_eq_true, k_13, k_14, l_14, a_14, wa_14, k_15, l_15, a_15, wa_15, f_13_0, f_13_9, f_13_11, w_13_9, f_13_1, f_13_2, f_13_3, f_13_4, f_13_5, f_13_6, f_13_7, f_13_8, f_13_10, f_13_12, w_13_1, w_13_2, w_13_3, w_13_4, w_13_5, w_13_6, w_13_7, w_13_8, w_13_10, w_13_12, pS_b, pS_up, mh_N, mh_S, mh_X, mh_alH, rd_5, nI_le_zn (show q < 2 ^ 31 by omega), zn_nI (show teT g n p < 2 ^ 31 by omega), show ¬ q < teT g n p by omega, not_false_eq_true, nmC, Nat.add_zero]
  | m + 1, q, v, hq => by
    have ht := teT_le (g := g) hp
    have ih := fun v => s_tn_loop hg hn hp m (q + 1) v (by omega)
    rw [i44_23]
    simp only [i44_25, i44_26, i44_29, i44_32, i44_34, i44_36, i44_37, i44_38, i44_39, i44_42, i44_44, i44_45, i44_47, i44_48, i44_49, i44_52, i44_53, i44_56, nl_i, nl_r, nl_0, nl_j, nb0, nb1, nbI, orv_s, konN_v, konN_n, konN_e, true_and, and_true, and_self, if_true, if_false, ite_true, ite_false, isR_ref, true_or, or_true, isR_null, rg10, rg11, rg12, rg13, rg14, rg15, rg16, rh13, rh14, rh15, rh16, bI_T, bI_F, bI_Fb, i1z, Bool.false_eq_true, k_13, k_14, l_14, a_14, wa_14, k_15, l_15, a_15, wa_15, f_13_0, f_13_9, f_13_11, w_13_9, f_13_1, f_13_2, f_13_3, f_13_4, f_13_5, f_13_6, f_13_7, f_13_8, f_13_10, f_13_12, w_13_1, w_13_2, w_13_3, w_13_4, w_13_5, w_13_6, w_13_7, w_13_8, w_13_10, w_13_12, pS_b, pS_up, mh_N, mh_S, mh_X, mh_alH, rd_5, hg, nI_le_zn (show q < 2 ^ 31 by omega), zn_nI (show teT g n p < 2 ^ 31 by omega), show q < teT g n p by omega, not_true, inbT (show q < 700 by omega) (show 700 < 2 ^ 31 by omega), zn_nI (show q < 2 ^ 31 by omega), ← nI_succ, ih, nmC, show q + (m + 1) = q + 1 + m by omega]
theorem s_takeNumber (hg : A 14 = g) (hn : n ≤ 700) (hp : p ≤ n) : EvM (d + 2) 44 [.ref 13, .int lo, .int hi] (MH h T U (pS S 13 (rd g n p nu ec hs sc)) A J G) K =
    if kdT g n p = 1 then (if lo ≤ nmC g (teT g n p - p) p 0 ∧ nmC g (teT g n p - p) p 0 ≤ hi then K (.inl (some (.int 1))) (MH h T U (pS S 13 (rd g n (nxT g n p) (nmC g (teT g n p - p) p 0) ec hs sc)) A J G) else K (.inl (some (.int 0))) (MH h T U (pS S 13 (upf (upf (rd g n p nu ec hs sc) 7 (-3)) 8 (nI p))) A J G)) else K (.inl (some (.int 0))) (MH h T U (pS S 13 (upf (upf (rd g n p nu ec hs sc) 7 (-2)) 8 (nI p))) A J G) := by
  have ht := teT_le (g := g) hp
  by_cases h1 : kdT g n p = 1
  · have key := s_tn_loop (d := d) (h := h) (T := T) (U := U) (S := S) (J := J) (G := G) (K := K) (nu := nu) (ec := ec) (hs := hs) (sc := sc) (lo := lo) (hi := hi) hg hn hp (teT g n p - p) p 0 (by omega)
    rw [if_pos h1]
    generalize nmC g (teT g n p - p) p 0 = v at key ⊢
    by_cases h2 : lo ≤ v ∧ v ≤ hi
    · simp only [i44_0, i44_1, i44_4, i44_5, i44_8, i44_9, i44_11, i44_14, i44_15, i44_16, i44_17, i44_18, i44_21, i44_59, i44_60, i44_61, i44_62, i44_65, i44_68, i44_69, i44_71, i44_74, i44_75, i44_76, i44_77, i44_80, i44_81, i44_84, i44_85, in44, nl_i, nl_r, nl_0, nl_j, nb0, nb1, nbI, orv_s, konN_v, konN_n, konN_e, true_and, and_true, and_self, if_true, if_false, ite_true, ite_false, isR_ref, true_or, or_true, isR_null, rg10, rg11, rg12, rg13, rg14, rg15, rg16, rh13, rh14, rh15, rh16, bI_T, bI_F, bI_Fb, i1z, Bool.false_eq_true, k_13, k_14, l_14, a_14, wa_14, k_15, l_15, a_15, wa_15, f_13_0, f_13_9, f_13_11, w_13_9, f_13_1, f_13_2, f_13_3, f_13_4, f_13_5, f_13_6, f_13_7, f_13_8, f_13_10, f_13_12, w_13_1, w_13_2, w_13_3, w_13_4, w_13_5, w_13_6, w_13_7, w_13_8, w_13_10, w_13_12, pS_b, pS_up, mh_N, mh_S, mh_X, mh_alH, rd_3, rd_4, h1, key, s_isWithin, bI_t h2, i1z, rd_u6, s_tok hg hn hp]
      rw [if_pos h2]
    · simp only [i44_0, i44_1, i44_4, i44_5, i44_8, i44_9, i44_11, i44_14, i44_15, i44_16, i44_17, i44_18, i44_21, i44_59, i44_60, i44_61, i44_62, i44_65, i44_68, i44_69, i44_71, i44_74, i44_75, i44_76, i44_77, i44_80, i44_81, i44_84, i44_85, in44, nl_i, nl_r, nl_0, nl_j, nb0, nb1, nbI, orv_s, konN_v, konN_n, konN_e, true_and, and_true, and_self, if_true, if_false, ite_true, ite_false, isR_ref, true_or, or_true, isR_null, rg10, rg11, rg12, rg13, rg14, rg15, rg16, rh13, rh14, rh15, rh16, bI_T, bI_F, bI_Fb, i1z, Bool.false_eq_true, k_13, k_14, l_14, a_14, wa_14, k_15, l_15, a_15, wa_15, f_13_0, f_13_9, f_13_11, w_13_9, f_13_1, f_13_2, f_13_3, f_13_4, f_13_5, f_13_6, f_13_7, f_13_8, f_13_10, f_13_12, w_13_1, w_13_2, w_13_3, w_13_4, w_13_5, w_13_6, w_13_7, w_13_8, w_13_10, w_13_12, pS_b, pS_up, mh_N, mh_S, mh_X, mh_alH, rd_3, rd_4, h1, key, s_isWithin, bI_f h2, s_fail]
      rw [if_neg h2]
  · rw [if_neg h1]
    simp only [i44_0, i44_1, i44_4, i44_5, i44_8, i44_9, i44_11, i44_14, i44_15, i44_16, i44_17, i44_18, i44_21, in44, nl_i, nl_r, nl_0, nl_j, nb0, nb1, nbI, orv_s, konN_v, konN_n, konN_e, true_and, and_true, and_self, if_true, if_false, ite_true, ite_false, isR_ref, true_or, or_true, isR_null, rg10, rg11, rg12, rg13, rg14, rg15, rg16, rh13, rh14, rh15, rh16, bI_T, bI_F, bI_Fb, i1z, Bool.false_eq_true, k_13, k_14, l_14, a_14, wa_14, k_15, l_15, a_15, wa_15, f_13_0, f_13_9, f_13_11, w_13_9, f_13_1, f_13_2, f_13_3, f_13_4, f_13_5, f_13_6, f_13_7, f_13_8, f_13_10, f_13_12, w_13_1, w_13_2, w_13_3, w_13_4, w_13_5, w_13_6, w_13_7, w_13_8, w_13_10, w_13_12, pS_b, pS_up, mh_N, mh_S, mh_X, mh_alH, rd_3, rd_4, h1, s_fail]
end R1
