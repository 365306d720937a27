/-! HEAT EXPRESSIONS: the steps of the class and the codes of the reference -/
def opR (op : Int32) (a b : Int64) : Int64 := if op = 5 then (if b = 0 then 0 else a / b) else (fun e : Int64 => if e ≤ 1000000 then (if -1000000 ≤ e then e else -1000000) else 1000000) (if op = 2 then a + b else if op = 3 then a - b else a * b)
def bd (x : Int32) : Prop := -1000000 ≤ x ∧ x ≤ 1000000
def xvR (v th z gp : Int32) : Int32 := if v = 0 then th else if v = 1 then z else gp
def GX (k : Nat) (L R : List Int32) : Prop := ∀ th z gp : Int32, bd th → bd z → bd gp → ∃ v : Int32, bd v ∧
  (∀ (pg : Nat → Int32) (i : Nat), (∀ j, j < L.length → pg (i + j) = L.getD j 0) → ∀ (stk : Nat → Int32) (c : Nat), c + k ≤ 11 → ∃ stk', itn (vStep pg th z gp) i L.length (c, stk) = (c + 1, stk') ∧ stk' c = v ∧ ∀ l, l < c → stk' l = stk l) ∧
  (∀ (D : Nat → Int32) (i N : Nat), (∀ j, j < R.length → D (251 + (i + j)) = R.getD j 0) → D 8 = nI N → N ≤ 1200 → i + R.length ≤ N → ∀ (stk : Nat → Int64) (c : Nat), c + k ≤ 11 → ∃ stk' : Nat → Int64, stk' c = v.toInt64 ∧ (∀ l, l < c → stk' l = stk l) ∧
    ∀ l6 l7, ∃ l6' l7', ∀ (d : Nat) (h : AH) (T : Nat → Bool) (U S A : Nat → Nat → Int32) (J : Nat → Nat → Int64) (G : Nat → Nat) (K : AO → AH → Prop), A 142 = D →
      Ev (d + 2) 124 22 [some (.ref 140), some (.int th), some (.int z), some (.int gp), some (.int (nI c)), some (.int (nI i)), l6, l7] [] (MH h T U S A (upf J 154 stk) G) K = Ev (d + 2) 124 22 [some (.ref 140), some (.int th), some (.int z), some (.int gp), some (.int (nI (c + 1))), some (.int (nI (i + R.length))), l6', l7'] [] (MH h T U S A (upf J 154 stk') G) K)
theorem gD_1 {L0 L : List Int32} {j : Nat} (h : j < L0.length) : (L0 ++ L).getD j 0 = L0.getD j 0 := by
  rw [List.getD_eq_getElem?_getD, List.getD_eq_getElem?_getD, List.getElem?_append_left h]
theorem gD_2 {L0 L : List Int32} {j : Nat} : (L0 ++ L).getD (L0.length + j) 0 = L.getD j 0 := by
  rw [List.getD_eq_getElem?_getD, List.getD_eq_getElem?_getD, List.getElem?_append_right (by omega), Nat.add_sub_cancel_left]
theorem itn_add {α : Type} (f : Nat → α → α) : ∀ (a b k : Nat) (s : α), itn f k (a + b) s = itn f (k + a) b (itn f k a s)
  | 0, b, k, s => by rw [Nat.zero_add]; rfl
  | a + 1, b, k, s => by
    rw [show a + 1 + b = (a + b) + 1 by omega, itn, itn_add f a b (k + 1) (f k s), itn, show k + 1 + a = k + (a + 1) by omega]
section GX1
variable {d : Nat} {hh : AH} {h : AH} {T : Nat → Bool} {U S A : Nat → Nat → Int32} {J : Nat → Nat → Int64} {G : Nat → Nat} {K : AO → AH → Prop} {D : Nat → Int32} {i N c : Nat} {e f : Int64} {op th z gp v : Int32} {stk : Nat → Int64} {l6 l7 : Option Value}
theorem s_limited : EvM d 122 [.long e] hh K = K (.inl (some (.long (if e ≤ 1000000 then (if -1000000 ≤ e then e else -1000000) else 1000000)))) hh := by
  simp only [in122, i122_0, i122_1, i122_4, i122_5, i122_8, i122_11, i122_14, i122_15, i122_18, i122_19, i122_22, i122_25, i122_28, i122_29, nl_i, nl_r, nl_0, nl_j, nb0, nb1, nbI, orv_s, konN_v, konN_n, konN_e, true_and, and_true, and_self, if_true, if_false, ite_true, ite_false, isR_ref, true_or, or_true, bI_T, bI_F, bI_Fb, i1z, Bool.false_eq_true, lg_cmp_ge, lg_cmp_le]
  repeat' split
  all_goals rfl
theorem s_operate : EvM (d + 1) 123 [.int op, .long e, .long f] hh K = K (.inl (some (.long (opR op e f)))) hh := by
  unfold opR
  by_cases h5 : op = 5
  · subst h5
    simp only [in123, i123_0, i123_1, i123_2, i123_5, i123_6, i123_7, i123_8, i123_11, i123_12, i123_15, i123_16, i123_17, i123_18, i123_19, i123_20, i123_21, i123_24, i123_25, i123_26, i123_27, i123_30, i123_31, i123_32, i123_35, i123_36, i123_37, i123_38, i123_41, i123_42, i123_43, i123_44, i123_47, nl_i, nl_r, nl_0, nl_j, nb0, nb1, nbI, orv_s, konN_v, konN_n, konN_e, true_and, and_true, and_self, if_true, if_false, ite_true, ite_false, isR_ref, true_or, or_true, bI_T, bI_F, bI_Fb, i1z, Bool.false_eq_true, lg_cmp_eq]
    by_cases h0 : f = 0
    · simp only [h0, if_true]
    · simp only [h0, if_false, not_false_eq_true, true_and]
  · simp only [in123, i123_0, i123_1, i123_2, i123_5, i123_6, i123_7, i123_8, i123_11, i123_12, i123_15, i123_16, i123_17, i123_18, i123_19, i123_20, i123_21, i123_24, i123_25, i123_26, i123_27, i123_30, i123_31, i123_32, i123_35, i123_36, i123_37, i123_38, i123_41, i123_42, i123_43, i123_44, i123_47, nl_i, nl_r, nl_0, nl_j, nb0, nb1, nbI, orv_s, konN_v, konN_n, konN_e, true_and, and_true, and_self, if_true, if_false, ite_true, ite_false, isR_ref, true_or, or_true, bI_T, bI_F, bI_Fb, i1z, Bool.false_eq_true, h5, s_limited]
    by_cases h2 : op = 2
    · simp only [h2, if_true]
    · by_cases h3 : op = 3
      · simp only [h3, h2, if_true, if_false, show ((3 : Int32) = 2) = False from eq_false (by decide)]
      · simp only [h3, h2, if_false]
theorem t_lit (hA : A 142 = D) (hD : D 8 = nI N) (hN : N ≤ 1200) (hi : i + 2 ≤ N) (h0 : D (251 + i) = 0) (h1 : D (251 + (i + 1)) = v) (hc : c < 1200) : Ev (d + 2) 124 22 [some (.ref 140), some (.int th), some (.int z), some (.int gp), some (.int (nI c)), some (.int (nI i)), l6, l7] [] (MH h T U S A (upf J 154 stk) G) K =
    Ev (d + 2) 124 22 [some (.ref 140), some (.int th), some (.int z), some (.int gp), some (.int (nI (c + 1))), some (.int (nI (i + 2))), some (.int 0), some (.int v)] [] (MH h T U S A (upf J 154 (vp_updL stk c v.toInt64)) G) K := by
  have e1 : (251 : Int32) = nI 251 := rfl
  have e8 : (8 : Int32) = nI 8 := rfl
  rw [i124_22]
  simp only [i124_24, i124_25, i124_28, i124_30, i124_31, i124_34, i124_35, i124_38, i124_41, i124_43, i124_44, i124_45, i124_47, i124_49, i124_50, i124_53, i124_56, i124_57, i124_60, i124_63, i124_65, i124_66, i124_67, i124_69, i124_70, i124_73, i124_75, i124_77, i124_80, i124_82, i124_83, i124_86, i124_88, i124_91, i124_92, i124_93, i124_96, i124_98, i124_99, i124_102, i124_103, i124_104, i124_107, i124_108, i124_109, i124_110, i124_113, i124_116, i124_119, i124_120, i124_123, i124_125, i124_126, i124_127, i124_129, i124_130, i124_133, i124_135, i124_136, i124_137, i124_138, i124_139, i124_142, i124_144, i124_145, i124_148, i124_149, i124_152, nl_i, nl_r, nl_0, nl_j, nb0, nb1, nbI, orv_s, konN_v, konN_n, konN_e, true_and, and_true, and_self, if_true, if_false, ite_true, ite_false, isR_ref, true_or, or_true, bI_T, bI_F, bI_Fb, i1z, Bool.false_eq_true, mh_N, mh_S, mh_X, mh_alH, f_0_0, f_0_1, f_0_2, f_0_3, f_13_0, f_13_1, w_13_1, f_13_2, w_13_2, f_13_3, w_13_3, f_13_4, w_13_4, f_13_5, w_13_5, f_13_6, w_13_6, f_13_7, w_13_7, f_13_8, w_13_8, f_13_9, f_13_10, w_13_10, f_13_11, f_13_12, w_13_12, f_50_0, f_50_1, w_50_1, f_50_2, w_50_2, f_140_0, w_140_0, f_140_1, f_140_2, w_140_2, f_140_3, w_140_3, f_140_4, w_140_4, f_140_5, w_140_5, f_140_6, w_140_6, f_140_7, w_140_7, f_140_8, f_140_9, f_140_10, f_140_11, f_140_12, w_140_12, f_140_13, w_140_13, f_140_14, w_140_14, f_140_15, w_13_9, k_0, l_0, k_13, l_13, k_14, l_14, k_15, l_15, k_50, l_50, k_51, l_51, k_140, l_140, k_141, l_141, k_142, l_142, k_143, l_143, k_144, l_144, k_145, l_145, k_146, l_146, k_147, l_147, k_148, l_148, k_149, l_149, k_150, l_150, k_151, l_151, k_152, l_152, k_153, l_153, k_154, l_154, k_155, l_155, a_14, wa_14, a_15, wa_15, a_141, wa_141, a_142, wa_142, a_143, wa_143, a_144, wa_144, a_146, wa_146, a_147, wa_147, a_148, wa_148, a_149, wa_149, a_150, wa_150, a_151, wa_151, a_152, wa_152, a_153, wa_153, j_154, j_155, wj_154, wj_155, r_51, r_145, hA, e1, e8, hD, nI_add, nI_1, inbT (show 8 < 1451 by omega) (show 1451 < 2 ^ 31 by omega), inbT (show 251 + i < 1451 by omega) (show 1451 < 2 ^ 31 by omega), inbT (show 251 + (i + 1) < 1451 by omega) (show 1451 < 2 ^ 31 by omega), zn_nI (show 8 < 2 ^ 31 by omega), zn_nI (show 251 + i < 2 ^ 31 by omega), zn_nI (show 251 + (i + 1) < 2 ^ 31 by omega), nI_le_zn (show i < 2 ^ 31 by omega), zn_nI (show N < 2 ^ 31 by omega), show i < N by omega, not_true, h0, h1, show ((1 : Int32) < 0) = False from eq_false (by decide), inbT hc (show 1200 < 2 ^ 31 by omega), zn_nI (show c < 2 ^ 31 by omega), upf_same, upf_upf]
theorem t_var (hA : A 142 = D) (hD : D 8 = nI N) (hN : N ≤ 1200) (hi : i + 2 ≤ N) (h0 : D (251 + i) = 1) (h1 : D (251 + (i + 1)) = v) (hc : c < 1200) : Ev (d + 2) 124 22 [some (.ref 140), some (.int th), some (.int z), some (.int gp), some (.int (nI c)), some (.int (nI i)), l6, l7] [] (MH h T U S A (upf J 154 stk) G) K =
    Ev (d + 2) 124 22 [some (.ref 140), some (.int th), some (.int z), some (.int gp), some (.int (nI (c + 1))), some (.int (nI (i + 2))), some (.int 1), some (.int v)] [] (MH h T U S A (upf J 154 (vp_updL stk c (xvR v th z gp).toInt64)) G) K := by
  have e1 : (251 : Int32) = nI 251 := rfl
  have e8 : (8 : Int32) = nI 8 := rfl
  unfold xvR
  rw [i124_22]
  simp only [i124_24, i124_25, i124_28, i124_30, i124_31, i124_34, i124_35, i124_38, i124_41, i124_43, i124_44, i124_45, i124_47, i124_49, i124_50, i124_53, i124_56, i124_57, i124_60, i124_63, i124_65, i124_66, i124_67, i124_69, i124_70, i124_73, i124_75, i124_77, i124_80, i124_82, i124_83, i124_86, i124_88, i124_91, i124_92, i124_93, i124_96, i124_98, i124_99, i124_102, i124_103, i124_104, i124_107, i124_108, i124_109, i124_110, i124_113, i124_116, i124_119, i124_120, i124_123, i124_125, i124_126, i124_127, i124_129, i124_130, i124_133, i124_135, i124_136, i124_137, i124_138, i124_139, i124_142, i124_144, i124_145, i124_148, i124_149, i124_152, nl_i, nl_r, nl_0, nl_j, nb0, nb1, nbI, orv_s, konN_v, konN_n, konN_e, true_and, and_true, and_self, if_true, if_false, ite_true, ite_false, isR_ref, true_or, or_true, bI_T, bI_F, bI_Fb, i1z, Bool.false_eq_true, mh_N, mh_S, mh_X, mh_alH, f_0_0, f_0_1, f_0_2, f_0_3, f_13_0, f_13_1, w_13_1, f_13_2, w_13_2, f_13_3, w_13_3, f_13_4, w_13_4, f_13_5, w_13_5, f_13_6, w_13_6, f_13_7, w_13_7, f_13_8, w_13_8, f_13_9, f_13_10, w_13_10, f_13_11, f_13_12, w_13_12, f_50_0, f_50_1, w_50_1, f_50_2, w_50_2, f_140_0, w_140_0, f_140_1, f_140_2, w_140_2, f_140_3, w_140_3, f_140_4, w_140_4, f_140_5, w_140_5, f_140_6, w_140_6, f_140_7, w_140_7, f_140_8, f_140_9, f_140_10, f_140_11, f_140_12, w_140_12, f_140_13, w_140_13, f_140_14, w_140_14, f_140_15, w_13_9, k_0, l_0, k_13, l_13, k_14, l_14, k_15, l_15, k_50, l_50, k_51, l_51, k_140, l_140, k_141, l_141, k_142, l_142, k_143, l_143, k_144, l_144, k_145, l_145, k_146, l_146, k_147, l_147, k_148, l_148, k_149, l_149, k_150, l_150, k_151, l_151, k_152, l_152, k_153, l_153, k_154, l_154, k_155, l_155, a_14, wa_14, a_15, wa_15, a_141, wa_141, a_142, wa_142, a_143, wa_143, a_144, wa_144, a_146, wa_146, a_147, wa_147, a_148, wa_148, a_149, wa_149, a_150, wa_150, a_151, wa_151, a_152, wa_152, a_153, wa_153, j_154, j_155, wj_154, wj_155, r_51, r_145, hA, e1, e8, hD, nI_add, nI_1, inbT (show 8 < 1451 by omega) (show 1451 < 2 ^ 31 by omega), inbT (show 251 + i < 1451 by omega) (show 1451 < 2 ^ 31 by omega), inbT (show 251 + (i + 1) < 1451 by omega) (show 1451 < 2 ^ 31 by omega), zn_nI (show 8 < 2 ^ 31 by omega), zn_nI (show 251 + i < 2 ^ 31 by omega), zn_nI (show 251 + (i + 1) < 2 ^ 31 by omega), nI_le_zn (show i < 2 ^ 31 by omega), zn_nI (show N < 2 ^ 31 by omega), show i < N by omega, not_true, h0, h1, Int32.lt_irrefl, i1z, inbT hc (show 1200 < 2 ^ 31 by omega), zn_nI (show c < 2 ^ 31 by omega), upf_same, upf_upf]
  by_cases v0 : v = 0
  · simp only [v0, if_true]
  · by_cases v1 : v = 1
    · simp only [v1, i1z, if_true, if_false]
    · simp only [v0, v1, if_false]
theorem t_op (hA : A 142 = D) (hD : D 8 = nI N) (hN : N ≤ 1200) (hi : i + 1 ≤ N) (h0 : D (251 + i) = op) (h1 : 1 < op) (hc : c + 2 ≤ 1200) : Ev (d + 2) 124 22 [some (.ref 140), some (.int th), some (.int z), some (.int gp), some (.int (nI (c + 2))), some (.int (nI i)), l6, l7] [] (MH h T U S A (upf J 154 stk) G) K =
    Ev (d + 2) 124 22 [some (.ref 140), some (.int th), some (.int z), some (.int gp), some (.int (nI (c + 1))), some (.int (nI (i + 1))), some (.int op), l7] [] (MH h T U S A (upf J 154 (vp_updL stk c (opR op (stk c) (stk (c + 1))))) G) K := by
  have e1 : (251 : Int32) = nI 251 := rfl
  have e8 : (8 : Int32) = nI 8 := rfl
  rw [i124_22]
  simp only [i124_24, i124_25, i124_28, i124_30, i124_31, i124_34, i124_35, i124_38, i124_41, i124_43, i124_44, i124_45, i124_47, i124_49, i124_50, i124_53, i124_56, i124_57, i124_60, i124_63, i124_65, i124_66, i124_67, i124_69, i124_70, i124_73, i124_75, i124_77, i124_80, i124_82, i124_83, i124_86, i124_88, i124_91, i124_92, i124_93, i124_96, i124_98, i124_99, i124_102, i124_103, i124_104, i124_107, i124_108, i124_109, i124_110, i124_113, i124_116, i124_119, i124_120, i124_123, i124_125, i124_126, i124_127, i124_129, i124_130, i124_133, i124_135, i124_136, i124_137, i124_138, i124_139, i124_142, i124_144, i124_145, i124_148, i124_149, i124_152, nl_i, nl_r, nl_0, nl_j, nb0, nb1, nbI, orv_s, konN_v, konN_n, konN_e, true_and, and_true, and_self, if_true, if_false, ite_true, ite_false, isR_ref, true_or, or_true, bI_T, bI_F, bI_Fb, i1z, Bool.false_eq_true, mh_N, mh_S, mh_X, mh_alH, f_0_0, f_0_1, f_0_2, f_0_3, f_13_0, f_13_1, w_13_1, f_13_2, w_13_2, f_13_3, w_13_3, f_13_4, w_13_4, f_13_5, w_13_5, f_13_6, w_13_6, f_13_7, w_13_7, f_13_8, w_13_8, f_13_9, f_13_10, w_13_10, f_13_11, f_13_12, w_13_12, f_50_0, f_50_1, w_50_1, f_50_2, w_50_2, f_140_0, w_140_0, f_140_1, f_140_2, w_140_2, f_140_3, w_140_3, f_140_4, w_140_4, f_140_5, w_140_5, f_140_6, w_140_6, f_140_7, w_140_7, f_140_8, f_140_9, f_140_10, f_140_11, f_140_12, w_140_12, f_140_13, w_140_13, f_140_14, w_140_14, f_140_15, w_13_9, k_0, l_0, k_13, l_13, k_14, l_14, k_15, l_15, k_50, l_50, k_51, l_51, k_140, l_140, k_141, l_141, k_142, l_142, k_143, l_143, k_144, l_144, k_145, l_145, k_146, l_146, k_147, l_147, k_148, l_148, k_149, l_149, k_150, l_150, k_151, l_151, k_152, l_152, k_153, l_153, k_154, l_154, k_155, l_155, a_14, wa_14, a_15, wa_15, a_141, wa_141, a_142, wa_142, a_143, wa_143, a_144, wa_144, a_146, wa_146, a_147, wa_147, a_148, wa_148, a_149, wa_149, a_150, wa_150, a_151, wa_151, a_152, wa_152, a_153, wa_153, j_154, j_155, wj_154, wj_155, r_51, r_145, hA, e1, e8, hD, nI_add, nI_1, nI_m1, nI_pred, s_operate, inbT (show 8 < 1451 by omega) (show 1451 < 2 ^ 31 by omega), inbT (show 251 + i < 1451 by omega) (show 1451 < 2 ^ 31 by omega), zn_nI (show 8 < 2 ^ 31 by omega), zn_nI (show 251 + i < 2 ^ 31 by omega), nI_le_zn (show i < 2 ^ 31 by omega), zn_nI (show N < 2 ^ 31 by omega), show i < N by omega, not_true, h0, h1, inbT (show c < 1200 by omega) (show 1200 < 2 ^ 31 by omega), inbT (show c + 1 < 1200 by omega) (show 1200 < 2 ^ 31 by omega), zn_nI (show c < 2 ^ 31 by omega), zn_nI (show c + 1 < 2 ^ 31 by omega), upf_same, upf_upf]
end GX1
theorem vpl_eq {f : Nat → Int64} {k : Nat} {v : Int64} : vp_updL f k v k = v := if_pos rfl
theorem vpl_ne {f : Nat → Int64} {k l : Nat} {v : Int64} (h : l < k) : vp_updL f k v l = f l := if_neg (by omega)
theorem upd_eq {f : Nat → Int32} {k : Nat} {v : Int32} : upd f k v k = v := if_pos rfl
theorem upd_ne {f : Nat → Int32} {k l : Nat} {v : Int32} (h : l < k) : upd f k v l = f l := if_neg (by omega)
theorem gx_mono {k k' : Nat} {L R : List Int32} (h : GX k L R) (hk : k ≤ k') : GX k' L R := by
  intro th z gp h1 h2 h3
  obtain ⟨v, hv, hc, hr⟩ := h th z gp h1 h2 h3
  exact ⟨v, hv, fun pg i hj stk c q => hc pg i hj stk c (by omega), fun D i N a1 a2 a3 a4 stk c q => hr D i N a1 a2 a3 a4 stk c (by omega)⟩
theorem gx_num {v : Int32} (h0 : 0 ≤ v) (h1 : v ≤ 9999) : GX 1 [v] [0, v] := by
  intro th z gp b1 b2 b3
  have hb : bd v := by
    rw [i32_le] at h0 h1
    have h0 : (0 : Int) ≤ v.toInt := h0
    have h1 : v.toInt ≤ 9999 := h1
    refine ⟨?_, ?_⟩ <;> rw [i32_le]
    · show (-1000000 : Int) ≤ v.toInt
      omega
    · show v.toInt ≤ (1000000 : Int)
      omega
  refine ⟨v, hb, fun pg i hj stk c q => ⟨upd stk c v, ?_, upd_eq, fun l hl => upd_ne hl⟩, fun D i N a1 a2 a3 a4 stk c q => ⟨vp_updL stk c v.toInt64, vpl_eq, fun l hl => vpl_ne hl, fun l6 l7 => ⟨some (.int 0), some (.int v), fun d h T U S A J G K hA => ?_⟩⟩⟩
  · have e : pg i = v := hj 0 (show 0 < 1 by omega)
    show vStep pg th z gp i (c, stk) = _
    rw [vs_push (by rw [e]; exact fun z => absurd h0 (Int32.not_le.mpr z.1)) (by omega), e]
    unfold vOf
    rw [if_neg (Int32.not_lt.mpr h0)]
  · exact t_lit hA a2 a3 a4 (a1 0 (show 0 < 2 by omega)) (a1 1 (show 1 < 2 by omega)) (by omega)
theorem gx_var {s w : Int32} (hs : (s = -5 ∧ w = 0) ∨ (s = -6 ∧ w = 1) ∨ (s = -7 ∧ w = 2)) : GX 1 [s] [1, w] := by
  intro th z gp b1 b2 b3
  have hn : ¬ (s < 0 ∧ -4 ≤ s) := by rcases hs with h | h | h <;> rw [h.1] <;> decide
  have hvw : vOf s th z gp = xvR w th z gp := by rcases hs with h | h | h <;> rw [h.1, h.2] <;> rfl
  have hb : bd (xvR w th z gp) := by
    rcases hs with h | h | h <;> rw [h.2]
    · exact b1
    · exact b2
    · exact b3
  refine ⟨xvR w th z gp, hb, fun pg i hj stk c q => ⟨upd stk c (xvR w th z gp), ?_, upd_eq, fun l hl => upd_ne hl⟩, fun D i N a1 a2 a3 a4 stk c q => ⟨vp_updL stk c (xvR w th z gp).toInt64, vpl_eq, fun l hl => vpl_ne hl, fun l6 l7 => ⟨some (.int 1), some (.int w), fun d h T U S A J G K hA => ?_⟩⟩⟩
  · have e : pg i = s := hj 0 (show 0 < 1 by omega)
    show vStep pg th z gp i (c, stk) = _
    rw [vs_push (by rw [e]; exact hn) (by omega), e, hvw]
  · exact t_var hA a2 a3 a4 (a1 0 (show 0 < 2 by omega)) (a1 1 (show 1 < 2 by omega)) (by omega)
theorem i64_le {x y : Int64} : (x ≤ y) = (x.toInt ≤ y.toInt) := propext Int64.le_iff_toInt_le
theorem lim6_ok (e : Int64) : bd (lim6 e) ∧ (lim6 e).toInt64 = (if e ≤ 1000000 then (if -1000000 ≤ e then e else -1000000) else 1000000) := by
  unfold lim6 bd
  by_cases h1 : -1000000 ≤ e
  · rw [if_pos h1, if_pos h1]
    by_cases h2 : e ≤ 1000000
    · rw [if_pos h2, if_pos h2]
      rw [i64_le] at h1 h2
      have h1 : (-1000000 : Int) ≤ e.toInt := h1
      have h2 : e.toInt ≤ 1000000 := h2
      have h3 : e.toInt32.toInt = e.toInt := by
        rw [Int64.toInt_toInt32]
        exact Int.bmod_eq_of_le (by omega) (by omega)
      refine ⟨⟨?_, ?_⟩, ?_⟩
      · rw [i32_le, h3]; exact h1
      · rw [i32_le, h3]; exact h2
      · refine Int64.toInt_inj.mp ?_
        rw [Int32.toInt_toInt64, h3]
    · rw [if_neg h2, if_neg h2]
      exact ⟨by decide, by decide⟩
  · rw [if_neg h1, if_neg h1]
    have h2 : e ≤ 1000000 := by
      rw [i64_le] at h1 ⊢
      have h1 : ¬ (-1000000 : Int) ≤ e.toInt := h1
      show e.toInt ≤ (1000000 : Int)
      omega
    rw [if_pos h2]
    exact ⟨by decide, by decide⟩
theorem op_ok {l r oc orr : Int32} (hl : bd l) (hr : bd r) (ho : (oc = -1 ∧ orr = 2) ∨ (oc = -2 ∧ orr = 3) ∨ (oc = -3 ∧ orr = 4) ∨ (oc = -4 ∧ orr = 5)) : bd (resC oc l r) ∧ (resC oc l r).toInt64 = opR orr l.toInt64 r.toInt64 := by
  have key := lim6_ok (exC oc l r)
  refine ⟨key.1, key.2.trans ?_⟩
  rcases ho with h | h | h | h <;> obtain ⟨rfl, rfl⟩ := h
  · rfl
  · rfl
  · rfl
  · show (if (if r = 0 then (0 : Int64) else l.toInt64 / r.toInt64) ≤ 1000000 then (if -1000000 ≤ (if r = 0 then (0 : Int64) else l.toInt64 / r.toInt64) then (if r = 0 then (0 : Int64) else l.toInt64 / r.toInt64) else -1000000) else 1000000) = (if r.toInt64 = 0 then (0 : Int64) else l.toInt64 / r.toInt64)
    by_cases h0 : r = 0
    · rw [if_pos h0, if_pos ((i64z (x := r)).mpr h0)]
      rfl
    · rw [if_neg h0, if_neg (fun z => h0 ((i64z (x := r)).mp z))]
      have hq : (l.toInt64 / r.toInt64).toInt = l.toInt.tdiv r.toInt := by
        rw [Int64.toInt_div, Int32.toInt_toInt64, Int32.toInt_toInt64]
        obtain ⟨b1, b2⟩ := hl
        rw [i32_le] at b1 b2
        have b1 : (-1000000 : Int) ≤ l.toInt := b1
        have b2 : l.toInt ≤ 1000000 := b2
        have t1 := Int.natAbs_tdiv_le_natAbs l.toInt r.toInt
        exact Int.bmod_eq_of_le (by omega) (by omega)
      obtain ⟨b1, b2⟩ := hl
      rw [i32_le] at b1 b2
      have b1 : (-1000000 : Int) ≤ l.toInt := b1
      have b2 : l.toInt ≤ 1000000 := b2
      have t1 := Int.natAbs_tdiv_le_natAbs l.toInt r.toInt
      rw [if_pos, if_pos]
      · rw [i64_le, hq]
        show (-1000000 : Int) ≤ _
        omega
      · rw [i64_le, hq]
        show _ ≤ (1000000 : Int)
        omega
theorem gx_bin {k : Nat} {L0 R0 L R : List Int32} {oc orr : Int32} (h0 : GX (k + 1) L0 R0) (h1 : GX k L R) (ho : (oc = -1 ∧ orr = 2) ∨ (oc = -2 ∧ orr = 3) ∨ (oc = -3 ∧ orr = 4) ∨ (oc = -4 ∧ orr = 5)) : GX (k + 1) (L0 ++ (L ++ [oc])) (R0 ++ (R ++ [orr])) := by
  intro th z gp b1 b2 b3
  obtain ⟨v0, hv0, hc0, hr0⟩ := h0 th z gp b1 b2 b3
  obtain ⟨v1, hv1, hc1, hr1⟩ := h1 th z gp b1 b2 b3
  have ok := op_ok hv0 hv1 ho
  have hoc : oc < 0 ∧ -4 ≤ oc := by rcases ho with h | h | h | h <;> rw [h.1] <;> decide
  have hor : 1 < orr := by rcases ho with h | h | h | h <;> rw [h.2] <;> decide
  have ll : (L0 ++ (L ++ [oc])).length = L0.length + (L.length + 1) := by simp
  have lr : (R0 ++ (R ++ [orr])).length = R0.length + (R.length + 1) := by simp
  refine ⟨resC oc v0 v1, ok.1, fun pg i hj stk c q => ?_, fun D i N a1 a2 a3 a4 stk c q => ?_⟩
  · rw [ll] at hj ⊢
    obtain ⟨s1, e1, e2, e3⟩ := hc0 pg i (fun j hjl => (hj j (by omega)).trans (gD_1 hjl)) stk c (by omega)
    obtain ⟨s2, f1, f2, f3⟩ := hc1 pg (i + L0.length) (fun j hjl => by
      rw [Nat.add_assoc, hj (L0.length + j) (by omega), gD_2, gD_1 hjl]) s1 (c + 1) (by omega)
    have e : pg (i + L0.length + L.length) = oc := by
      rw [Nat.add_assoc, hj (L0.length + L.length) (by omega), gD_2]
      exact (gD_2 (L0 := L) (j := 0)).trans rfl
    refine ⟨upd s2 c (resC oc v0 v1), ?_, upd_eq, fun l hl => ?_⟩
    · rw [itn_add, itn_add, e1, f1]
      show vStep pg th z gp (i + L0.length + L.length) (c + 1 + 1, s2) = _
      rw [show c + 1 + 1 = c + 2 from rfl, vs_op (by rw [e]; exact hoc), e, f2, f3 c (by omega), e2]
    · rw [upd_ne hl, f3 l (by omega), e3 l hl]
  · rw [lr] at a1 a4
    obtain ⟨s1, e2, e3, e1⟩ := hr0 D i N (fun j hjl => (a1 j (by omega)).trans (gD_1 hjl)) a2 a3 (by omega) stk c (by omega)
    obtain ⟨s2, f2, f3, f1⟩ := hr1 D (i + R0.length) N (fun j hjl => by
      rw [Nat.add_assoc, a1 (R0.length + j) (by omega), gD_2, gD_1 hjl]) a2 a3 (by omega) s1 (c + 1) (by omega)
    have e : D (251 + (i + R0.length + R.length)) = orr := by
      rw [Nat.add_assoc i, a1 (R0.length + R.length) (by omega), gD_2]
      exact (gD_2 (L0 := R) (j := 0)).trans rfl
    refine ⟨vp_updL s2 c (opR orr (s2 c) (s2 (c + 1))), ?_, fun l hl => ?_, fun l6 l7 => ?_⟩
    · rw [vpl_eq, f2, f3 c (by omega), e2, ok.2]
    · rw [vpl_ne hl, f3 l (by omega), e3 l hl]
    · obtain ⟨p6, p7, k1⟩ := e1 l6 l7
      obtain ⟨q6, q7, k2⟩ := f1 p6 p7
      refine ⟨some (.int orr), q7, fun d h T U S A J G K hA => ?_⟩
      rw [k1 d h T U S A J G K hA, k2 d h T U S A J G K hA, show c + 1 + 1 = c + 2 from rfl, t_op hA a2 a3 (by omega) e hor (by omega), lr, show i + R0.length + R.length + 1 = i + (R0.length + (R.length + 1)) by omega]
/-- the heat of a setup (n steps pg) and that of the data row D say the same -/
def HX (n : Nat) (pg D : Nat → Int32) : Prop := (D 7 = 0 ∧ n = 3 ∧ pg 0 = 400 ∧ pg 1 = -5 ∧ pg 2 = -4) ∨ (¬ D 7 = 0 ∧ ∃ L R, GX 11 L R ∧ n = L.length ∧ (∀ j, j < L.length → pg j = L.getD j 0) ∧ D 8 = nI R.length ∧ R.length ≤ 1200 ∧ ∀ j, j < R.length → D (251 + j) = R.getD j 0)
theorem heat_400 : ∀ k, k < 20 → 2 ≤ k → lim (resC (-4) 400 (nI k)) 0 1000 = 400 / nI k ∧ ¬ nI k = 0 ∧ bd (nI k) := by unfold bd; decide +kernel
theorem th_nI {th : Int32} (h2 : 2 ≤ th) (h19 : th ≤ 19) : ∃ k, k < 20 ∧ 2 ≤ k ∧ th = nI k := by
  rw [i32_le] at h2 h19
  have h2 : (2 : Int) ≤ th.toInt := h2
  have h19 : th.toInt ≤ 19 := h19
  refine ⟨th.toInt.toNat, by omega, by omega, Int32.toInt_inj.mp ?_⟩
  rw [nI_toInt (by omega)]
  omega
theorem lim_l2i {v : Int32} (hv : bd v) : (if 0 ≤ v.toInt64 then (if v.toInt64 ≤ 1000 then v.toInt64.toInt32 else 1000) else 0) = lim v 0 1000 := by
  unfold lim
  have e0 : (0 ≤ v.toInt64) = (0 ≤ v) := by
    rw [i64_le, i32_le, Int32.toInt_toInt64]
    rfl
  have e1 : (v.toInt64 ≤ 1000) = (v ≤ 1000) := by
    rw [i64_le, i32_le, Int32.toInt_toInt64]
    rfl
  have e2 : v.toInt64.toInt32 = v := by
    refine Int32.toInt_inj.mp ?_
    rw [Int64.toInt_toInt32, Int32.toInt_toInt64]
    have := v.toInt_lt
    have := v.le_toInt
    exact Int.bmod_eq_of_le (by omega) (by omega)
  simp only [e0, e1, e2]
theorem heat_eq {n : Nat} {pg D : Nat → Int32} (hx : HX n pg D) {th z gp : Int32} (h2 : 2 ≤ th) (h19 : th ≤ 19) (bz : bd z) (bg : bd gp) (stk : Nat → Int32) (J : Nat → Nat → Int64) :
    ∃ sj : Nat → Int64, ∀ (d : Nat) (h : AH) (T : Nat → Bool) (U S A : Nat → Nat → Int32) (G : Nat → Nat) (K : AO → AH → Prop), A 142 = D → EvM (d + 2) 124 [.ref 140, .int th, .int z, .int gp] (MH h T U S A J G) K = K (.inl (some (.int (lim (vRun pg n th z gp stk 0) 0 1000)))) (MH h T U S A (upf J 154 sj) G) := by
  obtain ⟨kt, k20, k2, rfl⟩ := th_nI h2 h19
  obtain ⟨q1, q2, q3⟩ := heat_400 kt k20 k2
  rcases hx with ⟨d7, rfl, p0, p1, p2⟩ | ⟨d7, L, R, hG, rfl, hpg, d8, hR, hD⟩
  · refine ⟨J 154, fun d h T U S A G K hA => ?_⟩
    have t1 : vStep pg (nI kt) z gp 0 (0, stk) = (1, upd stk 0 400) := (vs_push (by rw [p0]; decide) (by omega)).trans (by rw [p0]; rfl)
    have t2 : vStep pg (nI kt) z gp 1 (1, upd stk 0 400) = (2, upd (upd stk 0 400) 1 (nI kt)) := (vs_push (by rw [p1]; decide) (by omega)).trans (by rw [p1]; rfl)
    have t3 : vStep pg (nI kt) z gp 2 (2, upd (upd stk 0 400) 1 (nI kt)) = (1, upd (upd (upd stk 0 400) 1 (nI kt)) 0 (resC (-4) 400 (nI kt))) := (vs_op (e := 0) (by rw [p2]; decide)).trans (by rw [p2]; rfl)
    have ev : vRun pg 3 (nI kt) z gp stk 0 = resC (-4) 400 (nI kt) := by
      show (vStep pg (nI kt) z gp 2 (vStep pg (nI kt) z gp 1 (vStep pg (nI kt) z gp 0 (0, stk)))).2 0 = _
      rw [t1, t2, t3]
      rfl
    rw [ev, q1, upf_id]
    simp only [i124_0, i124_1, i124_4, i124_6, i124_7, i124_10, i124_13, i124_14, i124_15, in124, nl_i, nl_r, nl_0, nl_j, nb0, nb1, nbI, orv_s, konN_v, konN_n, konN_e, true_and, and_true, and_self, if_true, if_false, ite_true, ite_false, isR_ref, true_or, or_true, bI_T, bI_F, bI_Fb, i1z, Bool.false_eq_true, mh_N, mh_S, mh_X, mh_alH, f_0_0, f_0_1, f_0_2, f_0_3, f_13_0, f_13_1, w_13_1, f_13_2, w_13_2, f_13_3, w_13_3, f_13_4, w_13_4, f_13_5, w_13_5, f_13_6, w_13_6, f_13_7, w_13_7, f_13_8, w_13_8, f_13_9, f_13_10, w_13_10, f_13_11, f_13_12, w_13_12, f_50_0, f_50_1, w_50_1, f_50_2, w_50_2, f_140_0, w_140_0, f_140_1, f_140_2, w_140_2, f_140_3, w_140_3, f_140_4, w_140_4, f_140_5, w_140_5, f_140_6, w_140_6, f_140_7, w_140_7, f_140_8, f_140_9, f_140_10, f_140_11, f_140_12, w_140_12, f_140_13, w_140_13, f_140_14, w_140_14, f_140_15, w_13_9, k_0, l_0, k_13, l_13, k_14, l_14, k_15, l_15, k_50, l_50, k_51, l_51, k_140, l_140, k_141, l_141, k_142, l_142, k_143, l_143, k_144, l_144, k_145, l_145, k_146, l_146, k_147, l_147, k_148, l_148, k_149, l_149, k_150, l_150, k_151, l_151, k_152, l_152, k_153, l_153, k_154, l_154, k_155, l_155, a_14, wa_14, a_15, wa_15, a_141, wa_141, a_142, wa_142, a_143, wa_143, a_144, wa_144, a_146, wa_146, a_147, wa_147, a_148, wa_148, a_149, wa_149, a_150, wa_150, a_151, wa_151, a_152, wa_152, a_153, wa_153, j_154, j_155, wj_154, wj_155, r_51, r_145, hA, show (7 : Int32) = nI 7 from rfl, inbT (show 7 < 1451 by omega) (show 1451 < 2 ^ 31 by omega), zn_nI (show 7 < 2 ^ 31 by omega), d7, q2, not_false_eq_true]
  · obtain ⟨v, hv, hc, hr⟩ := hG (nI kt) z gp q3 bz bg
    obtain ⟨s1, e1, e2, -⟩ := hc pg 0 (fun j hj => by rw [Nat.zero_add]; exact hpg j hj) stk 0 (by omega)
    obtain ⟨s2, f1, -, f2⟩ := hr D 0 R.length (fun j hj => by rw [Nat.zero_add]; exact hD j hj) d8 hR (by omega) (J 154) 0 (by omega)
    obtain ⟨o6, o7, f3⟩ := f2 none none
    refine ⟨s2, fun d h T U S A G K hA => ?_⟩
    have ev : vRun pg L.length (nI kt) z gp stk 0 = v := by
      show (itn (vStep pg (nI kt) z gp) 0 L.length (0, stk)).2 0 = _
      rw [e1]
      exact e2
    have key := f3 d h T U S A J G K hA
    rw [upf_id, nI_0] at key
    simp only [Nat.zero_add] at key
    rw [ev, ← lim_l2i hv, ← f1]
    simp only [i124_0, i124_1, i124_4, i124_6, i124_7, i124_10, i124_13, i124_14, i124_15, i124_16, i124_17, i124_19, i124_20, in124, nl_i, nl_r, nl_0, nl_j, nb0, nb1, nbI, orv_s, konN_v, konN_n, konN_e, true_and, and_true, and_self, if_true, if_false, ite_true, ite_false, isR_ref, true_or, or_true, bI_T, bI_F, bI_Fb, i1z, Bool.false_eq_true, mh_N, mh_S, mh_X, mh_alH, f_0_0, f_0_1, f_0_2, f_0_3, f_13_0, f_13_1, w_13_1, f_13_2, w_13_2, f_13_3, w_13_3, f_13_4, w_13_4, f_13_5, w_13_5, f_13_6, w_13_6, f_13_7, w_13_7, f_13_8, w_13_8, f_13_9, f_13_10, w_13_10, f_13_11, f_13_12, w_13_12, f_50_0, f_50_1, w_50_1, f_50_2, w_50_2, f_140_0, w_140_0, f_140_1, f_140_2, w_140_2, f_140_3, w_140_3, f_140_4, w_140_4, f_140_5, w_140_5, f_140_6, w_140_6, f_140_7, w_140_7, f_140_8, f_140_9, f_140_10, f_140_11, f_140_12, w_140_12, f_140_13, w_140_13, f_140_14, w_140_14, f_140_15, w_13_9, k_0, l_0, k_13, l_13, k_14, l_14, k_15, l_15, k_50, l_50, k_51, l_51, k_140, l_140, k_141, l_141, k_142, l_142, k_143, l_143, k_144, l_144, k_145, l_145, k_146, l_146, k_147, l_147, k_148, l_148, k_149, l_149, k_150, l_150, k_151, l_151, k_152, l_152, k_153, l_153, k_154, l_154, k_155, l_155, a_14, wa_14, a_15, wa_15, a_141, wa_141, a_142, wa_142, a_143, wa_143, a_144, wa_144, a_146, wa_146, a_147, wa_147, a_148, wa_148, a_149, wa_149, a_150, wa_150, a_151, wa_151, a_152, wa_152, a_153, wa_153, j_154, j_155, wj_154, wj_155, r_51, r_145, hA, show (7 : Int32) = nI 7 from rfl, inbT (show 7 < 1451 by omega) (show 1451 < 2 ^ 31 by omega), zn_nI (show 7 < 2 ^ 31 by omega), d7, key]
    rw [i124_22]
    simp only [i124_24, i124_25, i124_28, i124_30, i124_31, i124_155, i124_156, i124_159, i124_160, i124_161, i124_162, i124_163, i124_166, i124_167, i124_170, i124_171, i124_174, i124_175, i124_176, i124_179, i124_180, i124_183, i124_186, i124_189, i124_190, i124_193, i124_194, i124_195, i124_196, nl_i, nl_r, nl_0, nl_j, nb0, nb1, nbI, orv_s, konN_v, konN_n, konN_e, true_and, and_true, and_self, if_true, if_false, ite_true, ite_false, isR_ref, true_or, or_true, bI_T, bI_F, bI_Fb, i1z, Bool.false_eq_true, mh_N, mh_S, mh_X, mh_alH, f_0_0, f_0_1, f_0_2, f_0_3, f_13_0, f_13_1, w_13_1, f_13_2, w_13_2, f_13_3, w_13_3, f_13_4, w_13_4, f_13_5, w_13_5, f_13_6, w_13_6, f_13_7, w_13_7, f_13_8, w_13_8, f_13_9, f_13_10, w_13_10, f_13_11, f_13_12, w_13_12, f_50_0, f_50_1, w_50_1, f_50_2, w_50_2, f_140_0, w_140_0, f_140_1, f_140_2, w_140_2, f_140_3, w_140_3, f_140_4, w_140_4, f_140_5, w_140_5, f_140_6, w_140_6, f_140_7, w_140_7, f_140_8, f_140_9, f_140_10, f_140_11, f_140_12, w_140_12, f_140_13, w_140_13, f_140_14, w_140_14, f_140_15, w_13_9, k_0, l_0, k_13, l_13, k_14, l_14, k_15, l_15, k_50, l_50, k_51, l_51, k_140, l_140, k_141, l_141, k_142, l_142, k_143, l_143, k_144, l_144, k_145, l_145, k_146, l_146, k_147, l_147, k_148, l_148, k_149, l_149, k_150, l_150, k_151, l_151, k_152, l_152, k_153, l_153, k_154, l_154, k_155, l_155, a_14, wa_14, a_15, wa_15, a_141, wa_141, a_142, wa_142, a_143, wa_143, a_144, wa_144, a_146, wa_146, a_147, wa_147, a_148, wa_148, a_149, wa_149, a_150, wa_150, a_151, wa_151, a_152, wa_152, a_153, wa_153, j_154, j_155, wj_154, wj_155, r_51, r_145, hA, show (8 : Int32) = nI 8 from rfl, inbT (show 8 < 1451 by omega) (show 1451 < 2 ^ 31 by omega), zn_nI (show 8 < 2 ^ 31 by omega), d8, nI_le_zn (show R.length < 2 ^ 31 by omega), zn_nI (show R.length < 2 ^ 31 by omega), Nat.lt_irrefl, not_false_eq_true, lg_cmp_ge, lg_cmp_le, inb0 (show 0 < 1200 by omega), zn_0, upf_same]
    repeat' split
    all_goals rfl
