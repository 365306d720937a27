/-! READING: a heat expression of the law's -/
def Sep (l : List Nat) : Prop := ∃ c l', l = c :: l' ∧ ¬ (48 ≤ c ∧ c ≤ 57) ∧ ¬ (97 ≤ c ∧ c ≤ 122)
/-- no sign follows that a term or a sum would go on with -/
def StpX (ys : List Nat) (l : List Nat) : Prop := ∃ c l', l = c :: l' ∧ (¬ (48 ≤ c ∧ c ≤ 57) ∧ ¬ (97 ≤ c ∧ c ≤ 122)) ∧ ∀ y, y ∈ ys → ¬ c = y
def Hd (l : List Nat) : Prop := ∃ c l', l = c :: l' ∧ ((48 ≤ c ∧ c ≤ 57) ∨ (97 ≤ c ∧ c ≤ 122) ∨ c = 40)
theorem Hd.sk {X l : List Nat} (h : Hd X) : sk (X ++ l) = X ++ l := by
  obtain ⟨c, l', rfl, hc⟩ := h
  exact sk_id (by omega)
def FacP (c : HP) (g : Nat → Int32) (n : Nat) (ec hs : Int32) (X : List Nat) (L : List Int32) (m b : Nat) : Prop := ∀ dp rest p nu sc st, dp + m ≤ 4 → sc + L.length ≤ 700 → Sep rest → At g n p (X ++ rest) → ∃ p' nu', At g n p' (sk rest) ∧ ∀ e K, b ≤ e → EvM e 42 [.ref 13, .int (nI dp)] (cH c (rd g n p nu ec hs sc) st) K = K (.inl (some (.int 1))) (cH c (rd g n p' nu' ec hs (sc + L.length)) (apL st sc L))
def TerP (c : HP) (g : Nat → Int32) (n : Nat) (ec hs : Int32) (X : List Nat) (L : List Int32) (m b : Nat) : Prop := ∀ dp rest p nu sc st, dp + m ≤ 4 → sc + L.length ≤ 700 → Sep rest → At g n p (X ++ rest) → ∃ p' nu' i l3, i ≤ m ∧ At g n p' (sk rest) ∧ ∀ e K, b ≤ e → Ev e 41 0 [some (.ref 13), some (.int (nI dp)), none, none] [] (cH c (rd g n p nu ec hs sc) st) K = Ev e 41 12 [some (.ref 13), some (.int (nI dp)), some (.int (nI i)), l3] [] (cH c (rd g n p' nu' ec hs (sc + L.length)) (apL st sc L)) K
def SumP (c : HP) (g : Nat → Int32) (n : Nat) (ec hs : Int32) (X : List Nat) (L : List Int32) (m b : Nat) : Prop := ∀ dp rest p nu sc st, dp + m ≤ 4 → sc + L.length ≤ 700 → StpX [42, 47] (sk rest) → Sep rest → At g n p (X ++ rest) → ∃ p' nu' i l3, i ≤ m ∧ At g n p' (sk rest) ∧ ∀ e K, b ≤ e → Ev e 40 0 [some (.ref 13), some (.int (nI dp)), none, none] [] (cH c (rd g n p nu ec hs sc) st) K = Ev e 40 12 [some (.ref 13), some (.int (nI dp)), some (.int (nI i)), l3] [] (cH c (rd g n p' nu' ec hs (sc + L.length)) (apL st sc L)) K
section EX
variable {c : HP} {g st : Nat → Int32} {n p i dp m b k : Nat} {ec hs nu : Int32} {sc : Nat} {X Y : List Nat} {L M : List Int32} {K : AO → AH → Prop} {l l' : List Nat}
theorem nI_42 : nI 42 = 42 := rfl
theorem ter_end (hg : cB c = g) (hn : n ≤ 700) (hi : i < n) (hs' : StpX [42, 47] l) (hA : At g n p l) {l3 : Option Value} {d : Nat} : Ev (d + 1) 41 12 [some (.ref 13), some (.int (nI dp)), some (.int (nI i)), l3] [] (cH c (rd g n p nu ec hs sc) st) K = K (.inl (some (.int 1))) (cH c (rd g n p nu ec hs sc) st) := by
  obtain ⟨x, l', rfl, ⟨h1, h2⟩, h3⟩ := hs'
  obtain ⟨-, t, -⟩ := tok_sign hA h1 h2
  have s42 : sgB g n p 42 = false := (t 42 (by decide)).trans (decide_eq_false (h3 42 (by simp)))
  have s47 : sgB g n p 47 = false := (t 47 (by decide)).trans (decide_eq_false (h3 47 (by simp)))
  rw [i41_12]
  simp only [i41_13, i41_14, i41_17, i41_20, i41_21, i41_23, i41_26, i41_29, i41_30, i41_32, i41_35, i41_38, i41_39, i41_41, i41_44, i41_47, i41_49, i41_52, i41_54, i41_55, i41_56, i41_59, i41_60, i41_61, i41_64, i41_67, i41_68, i41_69, i41_70, i41_71, i41_74, i41_77, i41_80, i41_81, nl_i, nl_r, nl_0, nl_j, nb0, nb1, nbI, orv_s, konN_v, konN_n, konN_e, true_and, and_true, and_self, if_true, if_false, ite_true, ite_false, isR_ref, true_or, or_true, isR_null, rg10, rg11, rg12, rg13, rg14, rg15, rg16, rh13, rh14, rh15, rh16, bI_T, bI_F, bI_Fb, i1z, Bool.false_eq_true, c_k, c_f2, rd_2, nI_leI (show n < 2 ^ 31 by omega) (show i < 2 ^ 31 by omega), show ¬ n ≤ i by omega, c_signIs hg hn, s42, s47]
theorem sum_end (hg : cB c = g) (hn : n ≤ 700) (hi : i < n) (hs' : StpX [43, 45] l) (hA : At g n p l) {l3 : Option Value} {d : Nat} : Ev (d + 1) 40 12 [some (.ref 13), some (.int (nI dp)), some (.int (nI i)), l3] [] (cH c (rd g n p nu ec hs sc) st) K = K (.inl (some (.int 1))) (cH c (rd g n p nu ec hs sc) st) := by
  obtain ⟨x, l', rfl, ⟨h1, h2⟩, h3⟩ := hs'
  obtain ⟨-, t, -⟩ := tok_sign hA h1 h2
  have s42 : sgB g n p 43 = false := (t 43 (by decide)).trans (decide_eq_false (h3 43 (by simp)))
  have s47 : sgB g n p 45 = false := (t 45 (by decide)).trans (decide_eq_false (h3 45 (by simp)))
  rw [i40_12]
  simp only [i40_13, i40_14, i40_17, i40_20, i40_21, i40_23, i40_26, i40_29, i40_30, i40_32, i40_35, i40_38, i40_39, i40_41, i40_44, i40_47, i40_48, i40_51, i40_53, i40_54, i40_55, i40_58, i40_59, i40_60, i40_63, i40_66, i40_67, i40_68, i40_69, i40_70, i40_73, i40_76, i40_79, i40_80, nl_i, nl_r, nl_0, nl_j, nb0, nb1, nbI, orv_s, konN_v, konN_n, konN_e, true_and, and_true, and_self, if_true, if_false, ite_true, ite_false, isR_ref, true_or, or_true, isR_null, rg10, rg11, rg12, rg13, rg14, rg15, rg16, rh13, rh14, rh15, rh16, bI_T, bI_F, bI_Fb, i1z, Bool.false_eq_true, c_k, c_f2, rd_2, nI_leI (show n < 2 ^ 31 by omega) (show i < 2 ^ 31 by omega), show ¬ n ≤ i by omega, c_signIs hg hn, s42, s47]
theorem fac_num (hg : cB c = g) (hn : n ≤ 700) (hm : m < 300) : FacP c g n ec hs (dgs m) [nI m] 0 5 := by
  intro dp rest p nu sc st hdp hsc hsep hA
  obtain ⟨x, l', rfl, h1, h2⟩ := hsep
  obtain ⟨k1, k2, k3⟩ := tok_num (show m < 1000 by omega) hA h1
  refine ⟨_, nI m, k3, fun e K he => ?_⟩
  obtain ⟨d, rfl⟩ : ∃ d, e = d + 3 := ⟨e - 3, by omega⟩
  have s40 : sgB g n p 40 = false := sg_no (by rw [k1]; decide)
  have hp := hA.le
  have hr : (0 : Int32) ≤ nI m ∧ nI m ≤ 9999 := ⟨nI_pos' (by omega), by rw [i32_le, nI_toInt (by omega)]; show (m : Int) ≤ 9999; omega⟩
  have tn := fun K => c_takeNumber (d := d) (nu := nu) (ec := ec) (hs := hs) (sc := sc) (st := st) (K := K) hg hn hp k1 k2 hr
  have hsc' : sc < 700 := by simp at hsc; omega
  simp only [in42, i42_0, i42_1, i42_3, i42_6, i42_9, i42_10, i42_11, i42_14, i42_15, i42_17, i42_20, i42_21, i42_22, i42_25, i42_26, i42_27, i42_28, i42_29, i42_32, i42_35, i42_36, i42_38, i42_41, i42_44, i42_45, i42_48, i42_49, i42_50, i42_51, i42_54, i42_55, i42_58, i42_59, i42_60, i42_63, i42_66, i42_69, i42_70, i42_71, i42_72, i42_73, i42_76, i42_79, i42_80, i42_81, i42_82, i42_84, i42_87, i42_90, i42_91, i42_93, i42_96, i42_99, i42_100, i42_102, i42_105, i42_108, i42_109, i42_111, i42_114, i42_117, i42_118, i42_120, i42_123, i42_126, i42_127, i42_129, i42_132, i42_135, i42_136, i42_138, i42_141, i42_142, i42_143, i42_146, i42_147, nl_i, nl_r, nl_0, nl_j, nb0, nb1, nbI, orv_s, konN_v, konN_n, konN_e, true_and, and_true, and_self, if_true, if_false, ite_true, ite_false, isR_ref, true_or, or_true, isR_null, rg10, rg11, rg12, rg13, rg14, rg15, rg16, rh13, rh14, rh15, rh16, bI_T, bI_F, bI_Fb, i1z, Bool.false_eq_true, c_k, c_f3, c_f6, rd_3, rd_6, c_signIs hg hn, s40, k1, tn, c_putStep hsc']
  rfl
theorem fac_var (hg : cB c = g) (hn : n ≤ 700) {j : Nat} (hj : j < 3) : FacP c g n ec hs (vrT j) [vrC j] 0 5 := by
  intro dp rest p nu sc st hdp hsc hsep hA
  obtain ⟨x, l', rfl, h1, h2⟩ := hsep
  have hsc' : sc < 700 := by simp at hsc; omega
  have hp := hA.le
  have i21' : ((2 : Int32) = 1) = False := eq_false (by decide)
  have w0 : (wrd 4).getD 0 0 = 116 := rfl
  have w1 : (wrd 1).getD 0 0 = 122 := rfl
  rcases (show j = 0 ∨ j = 1 ∨ j = 2 by omega) with rfl | rfl | rfl
  · obtain ⟨k1, k2, k3⟩ := tok_word (k := 4) (by decide) (c := x) (l := l') hA h2
    refine ⟨_, nu, k3, fun e K he => ?_⟩
    obtain ⟨d, rfl⟩ : ∃ d, e = d + 4 + 1 := ⟨e - 5, by omega⟩
    have s40 : sgB g n p 40 = false := sg_no (by rw [k1]; decide)
    simp only [in42, i42_0, i42_1, i42_3, i42_6, i42_9, i42_10, i42_11, i42_14, i42_15, i42_17, i42_20, i42_21, i42_22, i42_25, i42_26, i42_27, i42_28, i42_29, i42_32, i42_35, i42_36, i42_38, i42_41, i42_44, i42_45, i42_48, i42_49, i42_50, i42_51, i42_54, i42_55, i42_58, i42_59, i42_60, i42_63, i42_66, i42_69, i42_70, i42_71, i42_72, i42_73, i42_76, i42_79, i42_80, i42_81, i42_82, i42_84, i42_87, i42_90, i42_91, i42_93, i42_96, i42_99, i42_100, i42_102, i42_105, i42_108, i42_109, i42_111, i42_114, i42_117, i42_118, i42_120, i42_123, i42_126, i42_127, i42_129, i42_132, i42_135, i42_136, i42_138, i42_141, i42_142, i42_143, i42_146, i42_147, nl_i, nl_r, nl_0, nl_j, nb0, nb1, nbI, orv_s, konN_v, konN_n, konN_e, true_and, and_true, and_self, if_true, if_false, ite_true, ite_false, isR_ref, true_or, or_true, isR_null, rg10, rg11, rg12, rg13, rg14, rg15, rg16, rh13, rh14, rh15, rh16, bI_T, bI_F, bI_Fb, i1z, Bool.false_eq_true, c_k, c_f3, c_f6, rd_3, rd_6, c_signIs hg hn, s40, k1, i21', c_wordIs (show 4 < 17 by decide) hg hn hp, k2, c_putStep hsc', c_tok hg hn hp]
    rfl
  · obtain ⟨k1, k2, k3⟩ := tok_word (k := 1) (by decide) (c := x) (l := l') hA h2
    have n4 : wdB g n p 4 = false := wd_no (by decide) (show At g n p (122 :: ([111, 110, 101] ++ x :: l')) from hA) (by decide)
    refine ⟨_, nu, k3, fun e K he => ?_⟩
    obtain ⟨d, rfl⟩ : ∃ d, e = d + 4 + 1 := ⟨e - 5, by omega⟩
    have s40 : sgB g n p 40 = false := sg_no (by rw [k1]; decide)
    simp only [in42, i42_0, i42_1, i42_3, i42_6, i42_9, i42_10, i42_11, i42_14, i42_15, i42_17, i42_20, i42_21, i42_22, i42_25, i42_26, i42_27, i42_28, i42_29, i42_32, i42_35, i42_36, i42_38, i42_41, i42_44, i42_45, i42_48, i42_49, i42_50, i42_51, i42_54, i42_55, i42_58, i42_59, i42_60, i42_63, i42_66, i42_69, i42_70, i42_71, i42_72, i42_73, i42_76, i42_79, i42_80, i42_81, i42_82, i42_84, i42_87, i42_90, i42_91, i42_93, i42_96, i42_99, i42_100, i42_102, i42_105, i42_108, i42_109, i42_111, i42_114, i42_117, i42_118, i42_120, i42_123, i42_126, i42_127, i42_129, i42_132, i42_135, i42_136, i42_138, i42_141, i42_142, i42_143, i42_146, i42_147, nl_i, nl_r, nl_0, nl_j, nb0, nb1, nbI, orv_s, konN_v, konN_n, konN_e, true_and, and_true, and_self, if_true, if_false, ite_true, ite_false, isR_ref, true_or, or_true, isR_null, rg10, rg11, rg12, rg13, rg14, rg15, rg16, rh13, rh14, rh15, rh16, bI_T, bI_F, bI_Fb, i1z, Bool.false_eq_true, c_k, c_f3, c_f6, rd_3, rd_6, c_signIs hg hn, s40, k1, i21', c_wordIs (show 4 < 17 by decide) hg hn hp, c_wordIs (show 1 < 17 by decide) hg hn hp, k2, n4, c_putStep hsc', c_tok hg hn hp]
    rfl
  · obtain ⟨k1, k2, k3⟩ := tok_word (k := 5) (by decide) (c := x) (l := l') hA h2
    have n4 : wdB g n p 4 = false := wd_no (by decide) (show At g n p (103 :: ([97, 112] ++ x :: l')) from hA) (by decide)
    have n1 : wdB g n p 1 = false := wd_no (by decide) (show At g n p (103 :: ([97, 112] ++ x :: l')) from hA) (by decide)
    refine ⟨_, nu, k3, fun e K he => ?_⟩
    obtain ⟨d, rfl⟩ : ∃ d, e = d + 4 + 1 := ⟨e - 5, by omega⟩
    have s40 : sgB g n p 40 = false := sg_no (by rw [k1]; decide)
    simp only [in42, i42_0, i42_1, i42_3, i42_6, i42_9, i42_10, i42_11, i42_14, i42_15, i42_17, i42_20, i42_21, i42_22, i42_25, i42_26, i42_27, i42_28, i42_29, i42_32, i42_35, i42_36, i42_38, i42_41, i42_44, i42_45, i42_48, i42_49, i42_50, i42_51, i42_54, i42_55, i42_58, i42_59, i42_60, i42_63, i42_66, i42_69, i42_70, i42_71, i42_72, i42_73, i42_76, i42_79, i42_80, i42_81, i42_82, i42_84, i42_87, i42_90, i42_91, i42_93, i42_96, i42_99, i42_100, i42_102, i42_105, i42_108, i42_109, i42_111, i42_114, i42_117, i42_118, i42_120, i42_123, i42_126, i42_127, i42_129, i42_132, i42_135, i42_136, i42_138, i42_141, i42_142, i42_143, i42_146, i42_147, nl_i, nl_r, nl_0, nl_j, nb0, nb1, nbI, orv_s, konN_v, konN_n, konN_e, true_and, and_true, and_self, if_true, if_false, ite_true, ite_false, isR_ref, true_or, or_true, isR_null, rg10, rg11, rg12, rg13, rg14, rg15, rg16, rh13, rh14, rh15, rh16, bI_T, bI_F, bI_Fb, i1z, Bool.false_eq_true, c_k, c_f3, c_f6, rd_3, rd_6, c_signIs hg hn, s40, k1, i21', c_wordIs (show 4 < 17 by decide) hg hn hp, c_wordIs (show 1 < 17 by decide) hg hn hp, c_wordIs (show 5 < 17 by decide) hg hn hp, k2, n4, n1, c_putStep hsc', c_tok hg hn hp]
    rfl
/-- one factor is a term -/
theorem ter_fac (h : FacP c g n ec hs X L m b) (hb : 1 ≤ b) : TerP c g n ec hs X L m (b + 1) := by
  intro dp rest p nu sc st hdp hsc hsep hA
  obtain ⟨p', nu', h1, h2⟩ := h dp rest p nu sc st hdp hsc hsep hA
  refine ⟨p', nu', 0, none, Nat.zero_le _, h1, fun e K he => ?_⟩
  obtain ⟨d, rfl⟩ : ∃ d, e = d + 1 := ⟨e - 1, by omega⟩
  have r := fun K => h2 d K (by omega)
  rw [nI_0]
  simp only [i41_0, i41_1, i41_2, i41_5, i41_8, i41_9, i41_10, i41_11, nl_i, nl_r, nl_0, nl_j, nb0, nb1, nbI, orv_s, konN_v, konN_n, konN_e, true_and, and_true, and_self, if_true, if_false, ite_true, ite_false, isR_ref, true_or, or_true, isR_null, rg10, rg11, rg12, rg13, rg14, rg15, rg16, rh13, rh14, rh15, rh16, bI_T, bI_F, bI_Fb, i1z, Bool.false_eq_true, c_k, r]
/-- one term is a sum -/
theorem sum_ter (hg : cB c = g) (hn : n ≤ 700) (hn10 : 10 ≤ n) (hm : m ≤ 4) (h : TerP c g n ec hs X L m b) (hb : 1 ≤ b) : SumP c g n ec hs X L m (b + 1) := by
  intro dp rest p nu sc st hdp hsc hst hsep hA
  obtain ⟨p', nu', i, l3, hi, h1, h2⟩ := h dp rest p nu sc st hdp hsc hsep hA
  refine ⟨p', nu', 0, none, Nat.zero_le _, h1, fun e K he => ?_⟩
  obtain ⟨d, rfl⟩ : ∃ d, e = d + 1 + 1 := ⟨e - 2, by omega⟩
  have r := fun K => (h2 (d + 1) K (by omega)).trans (ter_end hg hn (by omega) hst h1)
  rw [nI_0]
  simp only [i40_0, i40_1, i40_2, i40_5, i40_8, i40_9, i40_10, i40_11, in41, nl_i, nl_r, nl_0, nl_j, nb0, nb1, nbI, orv_s, konN_v, konN_n, konN_e, true_and, and_true, and_self, if_true, if_false, ite_true, ite_false, isR_ref, true_or, or_true, isR_null, rg10, rg11, rg12, rg13, rg14, rg15, rg16, rh13, rh14, rh15, rh16, bI_T, bI_F, bI_Fb, i1z, Bool.false_eq_true, c_k, r]
/-- a sum in parentheses is a factor -/
theorem fac_par (hg : cB c = g) (hn : n ≤ 700) (hn10 : 10 ≤ n) (hm : m ≤ 4) (h : SumP c g n ec hs X L m b) (hb : 2 ≤ b) (hX : Hd X) : FacP c g n ec hs ([40] ++ X ++ [41]) L (m + 1) (b + 1) := by
  intro dp rest p nu sc st hdp hsc hsep hA
  have hA' : At g n p (40 :: (X ++ (41 :: rest))) := by
    have e : [40] ++ X ++ [41] ++ rest = 40 :: (X ++ (41 :: rest)) := by simp
    rw [← e]; exact hA
  obtain ⟨k1, k2, k3⟩ := tok_sign hA' (by decide) (by decide)
  rw [hX.sk] at k3
  obtain ⟨p1, nu1, i, l3, hi, h1, h2⟩ := h (dp + 1) (41 :: rest) _ nu sc st (by omega) hsc ⟨41, rest, sk_id (by decide), ⟨by decide, by decide⟩, by simp⟩ ⟨41, rest, rfl, by decide, by decide⟩ k3
  rw [sk_id (by decide)] at h1
  obtain ⟨q1, q2, q3⟩ := tok_sign h1 (by decide) (by decide)
  refine ⟨_, nu1, q3, fun e K he => ?_⟩
  obtain ⟨d, rfl⟩ : ∃ d, e = d + 2 + 1 := ⟨e - 3, by omega⟩
  have hp := hA'.le
  have hp1 := h1.le
  have s40 : sgB g n p 40 = true := (k2 40 (by decide)).trans (decide_eq_true rfl)
  have s41 : sgB g n p1 41 = true := (q2 41 (by decide)).trans (decide_eq_true rfl)
  have d4 : ((4 : Int32) ≤ nI dp) = False := eq_false (by rw [show (4 : Int32) = nI 4 from rfl, nI_leI (by omega) (by omega)]; omega)
  have d4' : (nI dp < 4) = True := eq_true (by rw [show (4 : Int32) = nI 4 from rfl, nI_lI (by omega) (by omega)]; omega)
  have r := fun K => (h2 (d + 2) K (by omega)).trans (sum_end hg hn (by omega) ⟨41, rest, rfl, ⟨by decide, by decide⟩, by simp⟩ h1)
  have ts := fun (K : AO → AH → Prop) => c_takeSign (d := d) (nu := nu1) (ec := ec) (hs := hs) (sc := sc + L.length) (st := apL st sc L) (K := K) hg hn hp1 s41
  simp only [in42, i42_0, i42_1, i42_3, i42_6, i42_9, i42_10, i42_11, i42_14, i42_15, i42_17, i42_20, i42_21, i42_22, i42_25, i42_26, i42_27, i42_28, i42_29, i42_32, i42_35, i42_36, i42_38, i42_41, i42_44, i42_45, i42_48, i42_49, i42_50, i42_51, i42_54, i42_55, i42_58, i42_59, i42_60, i42_63, i42_66, i42_69, i42_70, i42_71, i42_72, i42_73, i42_76, i42_79, i42_80, i42_81, i42_82, i42_84, i42_87, i42_90, i42_91, i42_93, i42_96, i42_99, i42_100, i42_102, i42_105, i42_108, i42_109, i42_111, i42_114, i42_117, i42_118, i42_120, i42_123, i42_126, i42_127, i42_129, i42_132, i42_135, i42_136, i42_138, i42_141, i42_142, i42_143, i42_146, i42_147, in40, nl_i, nl_r, nl_0, nl_j, nb0, nb1, nbI, orv_s, konN_v, konN_n, konN_e, true_and, and_true, and_self, if_true, if_false, ite_true, ite_false, isR_ref, true_or, or_true, isR_null, rg10, rg11, rg12, rg13, rg14, rg15, rg16, rh13, rh14, rh15, rh16, bI_T, bI_F, bI_Fb, i1z, Bool.false_eq_true, c_k, c_signIs hg hn, s40, d4, d4', c_tok hg hn hp, ← nI_succ, r, ts]
/-- a product, a quotient -/
theorem ter_op {Mb : Nat} (hg : cB c = g) (hn : n ≤ 700) (hn10 : 10 ≤ n) (hm : m ≤ 3) (hk : k = 4 ∨ k = 5) (h1 : TerP c g n ec hs X L m b) (h2 : FacP c g n ec hs Y M Mb (b - 1)) (hMb : Mb ≤ m) (hb : 2 ≤ b) (hY : Hd Y) : TerP c g n ec hs (X ++ opT k ++ Y) (L ++ (M ++ [opC k])) (m + 1) b := by
  intro dp rest p nu sc st hdp hsc hsep hA
  have hlen : sc + L.length + M.length + 1 ≤ 700 := by simp at hsc; omega
  obtain ⟨x, w, eo, hx1, hx2⟩ : ∃ x w, opT k = x :: w ∧ (k = 4 ∧ x = 42 ∨ k = 5 ∧ x = 47) ∧ sk (w ++ (Y ++ rest)) = Y ++ rest := by
    rcases hk with rfl | rfl
    · exact ⟨42, [32], rfl, Or.inl ⟨rfl, rfl⟩, by show sk (32 :: (Y ++ rest)) = _; rw [sk_sp, hY.sk]⟩
    · exact ⟨47, [], rfl, Or.inr ⟨rfl, rfl⟩, by show sk (Y ++ rest) = _; rw [hY.sk]⟩
  have hA' : At g n p (X ++ (x :: (w ++ (Y ++ rest)))) := by
    have e : X ++ opT k ++ Y ++ rest = X ++ (x :: (w ++ (Y ++ rest))) := by rw [eo]; simp
    rw [← e]; exact hA
  have hxx : ¬ x = 32 ∧ ¬ (48 ≤ x ∧ x ≤ 57) ∧ ¬ (97 ≤ x ∧ x ≤ 122) ∧ x < 128 := by omega
  obtain ⟨p1, nu1, i, l3, hi, a1, a2⟩ := h1 dp (x :: (w ++ (Y ++ rest))) p nu sc st (by omega) (by omega) ⟨x, _, rfl, hxx.2.1, hxx.2.2.1⟩ hA'
  rw [sk_id hxx.1] at a1
  obtain ⟨k1, k2, k3⟩ := tok_sign a1 hxx.2.1 hxx.2.2.1
  rw [hx2] at k3
  obtain ⟨p2, nu2, b1, b2⟩ := h2 dp rest _ nu1 (sc + L.length) (apL st sc L) (by omega) (by omega) hsep k3
  have hp1 := a1.le
  have le : (L ++ (M ++ [opC k])).length = L.length + M.length + 1 := by simp; omega
  refine ⟨p2, nu2, i + 1, some (.int (opC k)), by omega, b1, fun e K he => ?_⟩
  obtain ⟨d, rfl⟩ : ∃ d, e = d + 1 + 1 := ⟨e - 2, by omega⟩
  have r := fun K => b2 (d + 1) K (by omega)
  have fin : cH c (rd g n p2 nu2 ec hs (sc + L.length + M.length + 1)) (upd (apL (apL st sc L) (sc + L.length) M) (sc + L.length + M.length) (opC k)) = cH c (rd g n p2 nu2 ec hs (sc + (L ++ (M ++ [opC k])).length)) (apL st sc (L ++ (M ++ [opC k]))) := by
    rw [le, apL_app, apL_app]
    rw [show sc + (L.length + M.length + 1) = sc + L.length + M.length + 1 by omega]
    rfl
  rw [a2 (d + 1 + 1) K (by omega), i41_12, ← fin]
  rcases hx1 with ⟨rfl, rfl⟩ | ⟨rfl, rfl⟩
  · have s42 : sgB g n p1 42 = true := (k2 42 (by decide)).trans (decide_eq_true rfl)
    simp only [i41_13, i41_14, i41_17, i41_20, i41_21, i41_23, i41_26, i41_29, i41_30, i41_32, i41_35, i41_38, i41_39, i41_41, i41_44, i41_47, i41_49, i41_52, i41_54, i41_55, i41_56, i41_59, i41_60, i41_61, i41_64, i41_67, i41_68, i41_69, i41_70, i41_71, i41_74, i41_77, nl_i, nl_r, nl_0, nl_j, nb0, nb1, nbI, orv_s, konN_v, konN_n, konN_e, true_and, and_true, and_self, if_true, if_false, ite_true, ite_false, isR_ref, true_or, or_true, isR_null, rg10, rg11, rg12, rg13, rg14, rg15, rg16, rh13, rh14, rh15, rh16, bI_T, bI_F, bI_Fb, i1z, Bool.false_eq_true, c_k, c_f2, rd_2, nI_leI (show n < 2 ^ 31 by omega) (show i < 2 ^ 31 by omega), show ¬ n ≤ i by omega, c_signIs hg hn, s42, c_tok hg hn hp1, r, c_putStep (show sc + L.length + M.length < 700 by omega), ← nI_succ]
    rfl
  · have s42 : sgB g n p1 42 = false := (k2 42 (by decide)).trans (decide_eq_false (by decide))
    have s47 : sgB g n p1 47 = true := (k2 47 (by decide)).trans (decide_eq_true rfl)
    simp only [i41_13, i41_14, i41_17, i41_20, i41_21, i41_23, i41_26, i41_29, i41_30, i41_32, i41_35, i41_38, i41_39, i41_41, i41_44, i41_47, i41_49, i41_52, i41_54, i41_55, i41_56, i41_59, i41_60, i41_61, i41_64, i41_67, i41_68, i41_69, i41_70, i41_71, i41_74, i41_77, nl_i, nl_r, nl_0, nl_j, nb0, nb1, nbI, orv_s, konN_v, konN_n, konN_e, true_and, and_true, and_self, if_true, if_false, ite_true, ite_false, isR_ref, true_or, or_true, isR_null, rg10, rg11, rg12, rg13, rg14, rg15, rg16, rh13, rh14, rh15, rh16, bI_T, bI_F, bI_Fb, i1z, Bool.false_eq_true, c_k, c_f2, rd_2, nI_leI (show n < 2 ^ 31 by omega) (show i < 2 ^ 31 by omega), show ¬ n ≤ i by omega, c_signIs hg hn, s42, s47, c_tok hg hn hp1, r, c_putStep (show sc + L.length + M.length < 700 by omega), ← nI_succ]
    rfl
/-- a sum, a difference -/
theorem sum_op {Mb : Nat} (hg : cB c = g) (hn : n ≤ 700) (hn10 : 10 ≤ n) (hm : m ≤ 3) (hk : k = 2 ∨ k = 3) (h1 : SumP c g n ec hs X L m b) (h2 : TerP c g n ec hs Y M Mb (b - 1)) (hMb : Mb ≤ m) (hb : 2 ≤ b) (hY : Hd Y) : SumP c g n ec hs (X ++ opT k ++ Y) (L ++ (M ++ [opC k])) (m + 1) b := by
  intro dp rest p nu sc st hdp hsc hst hsep hA
  have hlen : sc + L.length + M.length + 1 ≤ 700 := by simp at hsc; omega
  obtain ⟨x, w, eo, hx1, hx2, hx3⟩ : ∃ x w, sk (opT k ++ (Y ++ rest)) = x :: w ∧ (k = 2 ∧ x = 43 ∨ k = 3 ∧ x = 45) ∧ sk w = Y ++ rest ∧ Sep (opT k ++ (Y ++ rest)) := by
    rcases hk with rfl | rfl
    · exact ⟨43, Y ++ rest, sk_id (by decide), Or.inl ⟨rfl, rfl⟩, hY.sk, 43, _, rfl, by decide, by decide⟩
    · refine ⟨45, 32 :: (Y ++ rest), ?_, Or.inr ⟨rfl, rfl⟩, ?_, 32, _, rfl, by decide, by decide⟩
      · show sk (32 :: 45 :: 32 :: (Y ++ rest)) = _
        rw [sk_sp, sk_id (by decide)]
      · rw [sk_sp, hY.sk]
  have hA' : At g n p (X ++ (opT k ++ (Y ++ rest))) := by
    have e : X ++ opT k ++ Y ++ rest = X ++ (opT k ++ (Y ++ rest)) := by simp
    rw [← e]; exact hA
  have hxx : ¬ x = 32 ∧ ¬ (48 ≤ x ∧ x ≤ 57) ∧ ¬ (97 ≤ x ∧ x ≤ 122) ∧ x < 128 ∧ ¬ x = 42 ∧ ¬ x = 47 := by omega
  obtain ⟨p1, nu1, i, l3, hi, a1, a2⟩ := h1 dp (opT k ++ (Y ++ rest)) p nu sc st (by omega) (by omega) (by rw [eo]; exact ⟨x, w, rfl, ⟨hxx.2.1, hxx.2.2.1⟩, by simp; omega⟩) hx3 hA'
  rw [eo] at a1
  obtain ⟨k1, k2, k3⟩ := tok_sign a1 hxx.2.1 hxx.2.2.1
  rw [hx2] at k3
  obtain ⟨p2, nu2, j, l3', hj, b1, b2⟩ := h2 dp rest _ nu1 (sc + L.length) (apL st sc L) (by omega) (by omega) hsep k3
  have hp1 := a1.le
  have le : (L ++ (M ++ [opC k])).length = L.length + M.length + 1 := by simp; omega
  refine ⟨p2, nu2, i + 1, some (.int (opC k)), by omega, b1, fun e K he => ?_⟩
  obtain ⟨d, rfl⟩ : ∃ d, e = d + 1 + 1 := ⟨e - 2, by omega⟩
  have r := fun K => (b2 (d + 1) K (by omega)).trans (ter_end hg hn (by omega) hst b1)
  have fin : cH c (rd g n p2 nu2 ec hs (sc + L.length + M.length + 1)) (upd (apL (apL st sc L) (sc + L.length) M) (sc + L.length + M.length) (opC k)) = cH c (rd g n p2 nu2 ec hs (sc + (L ++ (M ++ [opC k])).length)) (apL st sc (L ++ (M ++ [opC k]))) := by
    rw [le, apL_app, apL_app]
    rw [show sc + (L.length + M.length + 1) = sc + L.length + M.length + 1 by omega]
    rfl
  rw [a2 (d + 1 + 1) K (by omega), i40_12, ← fin]
  rcases hx1 with ⟨rfl, rfl⟩ | ⟨rfl, rfl⟩
  · have s42 : sgB g n p1 43 = true := (k2 43 (by decide)).trans (decide_eq_true rfl)
    simp only [i40_13, i40_14, i40_17, i40_20, i40_21, i40_23, i40_26, i40_29, i40_30, i40_32, i40_35, i40_38, i40_39, i40_41, i40_44, i40_47, i40_48, i40_51, i40_53, i40_54, i40_55, i40_58, i40_59, i40_60, i40_63, i40_66, i40_67, i40_68, i40_69, i40_70, i40_73, i40_76, in41, nl_i, nl_r, nl_0, nl_j, nb0, nb1, nbI, orv_s, konN_v, konN_n, konN_e, true_and, and_true, and_self, if_true, if_false, ite_true, ite_false, isR_ref, true_or, or_true, isR_null, rg10, rg11, rg12, rg13, rg14, rg15, rg16, rh13, rh14, rh15, rh16, bI_T, bI_F, bI_Fb, i1z, Bool.false_eq_true, c_k, c_f2, rd_2, nI_leI (show n < 2 ^ 31 by omega) (show i < 2 ^ 31 by omega), show ¬ n ≤ i by omega, c_signIs hg hn, s42, c_tok hg hn hp1, r, c_putStep (show sc + L.length + M.length < 700 by omega), ← nI_succ]
    rfl
  · have s42 : sgB g n p1 43 = false := (k2 43 (by decide)).trans (decide_eq_false (by decide))
    have s47 : sgB g n p1 45 = true := (k2 45 (by decide)).trans (decide_eq_true rfl)
    simp only [i40_13, i40_14, i40_17, i40_20, i40_21, i40_23, i40_26, i40_29, i40_30, i40_32, i40_35, i40_38, i40_39, i40_41, i40_44, i40_47, i40_48, i40_51, i40_53, i40_54, i40_55, i40_58, i40_59, i40_60, i40_63, i40_66, i40_67, i40_68, i40_69, i40_70, i40_73, i40_76, in41, nl_i, nl_r, nl_0, nl_j, nb0, nb1, nbI, orv_s, konN_v, konN_n, konN_e, true_and, and_true, and_self, if_true, if_false, ite_true, ite_false, isR_ref, true_or, or_true, isR_null, rg10, rg11, rg12, rg13, rg14, rg15, rg16, rh13, rh14, rh15, rh16, bI_T, bI_F, bI_Fb, i1z, Bool.false_eq_true, c_k, c_f2, rd_2, nI_leI (show n < 2 ^ 31 by omega) (show i < 2 ^ 31 by omega), show ¬ n ≤ i by omega, c_signIs hg hn, s42, s47, c_tok hg hn hp1, r, c_putStep (show sc + L.length + M.length < 700 by omega), ← nI_succ]
    rfl
theorem FacP.mo {m' b' : Nat} (h : FacP c g n ec hs X L m b) (hm : m ≤ m') (hb : b ≤ b') : FacP c g n ec hs X L m' b' := fun dp rest p nu sc st h1 h2 h3 h4 => by
  obtain ⟨p', nu', x, y⟩ := h dp rest p nu sc st (by omega) h2 h3 h4
  exact ⟨p', nu', x, fun e K he => y e K (by omega)⟩
theorem TerP.mo {m' b' : Nat} (h : TerP c g n ec hs X L m b) (hm : m ≤ m') (hb : b ≤ b') : TerP c g n ec hs X L m' b' := fun dp rest p nu sc st h1 h2 h3 h4 => by
  obtain ⟨p', nu', i, l3, hi, x, y⟩ := h dp rest p nu sc st (by omega) h2 h3 h4
  exact ⟨p', nu', i, l3, by omega, x, fun e K he => y e K (by omega)⟩
theorem SumP.mo {m' b' : Nat} (h : SumP c g n ec hs X L m b) (hm : m ≤ m') (hb : b ≤ b') : SumP c g n ec hs X L m' b' := fun dp rest p nu sc st h1 h2 h3 h4 h5 => by
  obtain ⟨p', nu', i, l3, hi, x, y⟩ := h dp rest p nu sc st (by omega) h2 h3 h4 h5
  exact ⟨p', nu', i, l3, by omega, x, fun e K he => y e K (by omega)⟩
theorem Hd.app {X Y : List Nat} (h : Hd X) : Hd (X ++ Y) := by
  obtain ⟨x, w, rfl, hx⟩ := h
  exact ⟨x, w ++ Y, rfl, hx⟩
theorem leaf_read (hg : cB c = g) (hn : n ≤ 700) {h : AH} {a : Nat} {tx L V} (x : LeafR h a tx L V) (lev : Nat) : FacP c g n ec hs (tx lev) L 0 5 ∧ Hd (tx lev) := by
  rcases x with ⟨-, m, hm, -, rfl, rfl, -⟩ | ⟨-, j, hj, -, rfl, rfl, -⟩
  · refine ⟨fac_num hg hn hm, ?_⟩
    obtain ⟨x, w, e, h1, h2⟩ := dgs_cons (m := m) (by omega)
    exact ⟨x, w, e, Or.inl ⟨h1, h2⟩⟩
  · refine ⟨fac_var hg hn hj, ?_⟩
    rcases (show j = 0 ∨ j = 1 ∨ j = 2 by omega) with rfl | rfl | rfl
    all_goals exact ⟨_, _, rfl, Or.inr (Or.inl (by decide))⟩
/-- a tree's text is read as its steps -/
theorem tree_read (hg : cB c = g) (hn : n ≤ 700) (hn10 : 10 ≤ n) {h : AH} {B : Nat → Prop} : ∀ {D a tx L V}, D ≤ 2 → NodeR h B D a tx L V → (FacP c g n ec hs (tx 3) L (2 * D) (5 + 3 * D) ∧ TerP c g n ec hs (tx 2) L (2 * D) (6 + 3 * D) ∧ SumP c g n ec hs (tx 1) L (2 * D) (7 + 3 * D) ∧ SumP c g n ec hs (tx 0) L (2 * D) (7 + 3 * D)) ∧ ∀ lev, Hd (tx lev)
  | 0, a, tx, L, V, hD, x => by
    have f := fun lev => leaf_read (ec := ec) (hs := hs) hg hn x.2 lev
    exact ⟨⟨(f 3).1, ter_fac (f 2).1 (by decide), sum_ter hg hn hn10 (by decide) (ter_fac (f 1).1 (by decide)) (by decide), sum_ter hg hn hn10 (by decide) (ter_fac (f 0).1 (by decide)) (by decide)⟩, fun lev => (f lev).2⟩
  | D + 1, a, tx, L, V, hD, x => by
    rcases x.2 with y | ⟨k, b, c', tb, tc, Lb, Lc, Vb, Vc, ⟨hk2, hk6⟩, -, hb, hc, rfl, rfl, -⟩
    · have f := fun lev => leaf_read (ec := ec) (hs := hs) hg hn y lev
      exact ⟨⟨(f 3).1.mo (by omega) (by omega), (ter_fac (f 2).1 (by decide)).mo (by omega) (by omega), (sum_ter hg hn hn10 (by decide) (ter_fac (f 1).1 (by decide)) (by decide)).mo (by omega) (by omega), (sum_ter hg hn hn10 (by decide) (ter_fac (f 0).1 (by decide)) (by decide)).mo (by omega) (by omega)⟩, fun lev => (f lev).2⟩
    · obtain ⟨⟨fb, tb', sb, sb0⟩, hdb⟩ := tree_read hg hn hn10 (show D ≤ 2 by omega) hb
      obtain ⟨⟨fc, tc', sc', sc0⟩, hdc⟩ := tree_read hg hn hn10 (show D ≤ 2 by omega) hc
      have raw : ∀ lev, ¬ ownL k < lev → opTx k tb tc lev = tb (ownL k) ++ opT k ++ tc (ownL k + 1) := fun lev hl => if_neg hl
      have par : ∀ lev, ownL k < lev → opTx k tb tc lev = [40] ++ (tb (ownL k) ++ opT k ++ tc (ownL k + 1)) ++ [41] := fun lev hl => if_pos hl
      have hr : Hd (tb (ownL k) ++ opT k ++ tc (ownL k + 1)) := (hdb (ownL k)).app.app
      have hh : ∀ lev, Hd (opTx k tb tc lev) := fun lev => by
        by_cases hl : ownL k < lev
        · rw [par lev hl]
          exact ⟨40, _, rfl, Or.inr (Or.inr rfl)⟩
        · rw [raw lev hl]
          exact hr
      refine ⟨?_, hh⟩
      by_cases h4 : k < 4
      · have ow : ownL k = 1 := if_pos h4
        rw [ow] at raw par hr
        have s := sum_op (k := k) hg hn hn10 (show 2 * D ≤ 3 by omega) (by omega) sb (show TerP c g n ec hs (tc 2) Lc (2 * D) (7 + 3 * D - 1) from tc'.mo (Nat.le_refl _) (by omega)) (Nat.le_refl _) (by omega) (hdc 2)
        have f := fac_par hg hn hn10 (show 2 * D + 1 ≤ 4 by omega) s (by omega) hr
        have t := ter_fac f (by omega)
        rw [raw 1 (by omega), raw 0 (by omega), par 2 (by omega), par 3 (by omega)]
        exact ⟨f.mo (by omega) (by omega), t.mo (by omega) (by omega), s.mo (by omega) (by omega), s.mo (by omega) (by omega)⟩
      · have ow : ownL k = 2 := if_neg h4
        rw [ow] at raw par hr
        have t := ter_op (k := k) hg hn hn10 (show 2 * D ≤ 3 by omega) (by omega) tb' (show FacP c g n ec hs (tc 3) Lc (2 * D) (6 + 3 * D - 1) from fc.mo (Nat.le_refl _) (by omega)) (Nat.le_refl _) (by omega) (hdc 3)
        have s := sum_ter hg hn hn10 (show 2 * D + 1 ≤ 4 by omega) t (by omega)
        have f := fac_par hg hn hn10 (show 2 * D + 1 ≤ 4 by omega) s (by omega) hr
        rw [raw 1 (by omega), raw 0 (by omega), raw 2 (by omega), par 3 (by omega)]
        exact ⟨f.mo (by omega) (by omega), t.mo (by omega) (by omega), s.mo (by omega) (by omega), s.mo (by omega) (by omega)⟩
end EX
