/-! A TICK -/
/-- f with j - 1, ..., 0 -/
def itd {α : Type} (f : Nat → α → α) : Nat → α → α
  | 0, s => s
  | j + 1, s => itd f j (f j s)
def quL (sa : Nat → Nat → Int32) (q : Nat → Int32) (v : LSt) : LSt :=
  if (0 ≤ v.1 3 ∧ v.1 3 < v.1 2) ∧ v.1 4 - 1 ≤ 0 then (upf (upf v.1 4 (v.1 4 - 1)) 3 (-1), judgeF sa q (v.1 3) v.2)
  else if 0 ≤ v.1 3 ∧ v.1 3 < v.1 2 then (upf v.1 4 (v.1 4 - 1), v.2) else v
def fillL (q : Nat → Int32) (v : LSt) : LSt := (upf v.1 1 (v.1 1 + 1), if 0 < q 0 ∧ v.2 3 0 = -1 then fillF v.2 0 (zn (v.1 2)) else v.2)
def tickL (sa : Nat → Nat → Int32) (q pg : Nat → Int32) (n : Nat) (v : (Nat → Int32) × LSt) : (Nat → Int32) × LSt :=
  (fun w : (Nat → Int32) × (Nat → Nat → Int32) => (w.1, fillL q (itd (moveF sa q) (zn (q 0)) (quL sa q (v.2.1, w.2))))) (itn (hsF sa pg n v.2.1) 0 (zn (q 0)) (v.1, hzL sa (zn (q 0)) v.2.2))
theorem nI_zn {x : Int32} (h : 0 ≤ x) : nI (zn x) = x := by
  rw [i32_le] at h
  have h : (0 : Int) ≤ x.toInt := h
  refine Int32.toInt_inj.mp ?_
  have := x.toInt_lt
  rw [nI_toInt (by show x.toInt.toNat < _; omega)]
  show ((x.toInt.toNat : Nat) : Int) = x.toInt
  omega
theorem toQu_2 {q : Nat → Int32} {k : Nat} {x : Int32} {v : LSt} : (toQuF q k x v).1 2 = v.1 2 := by
  unfold toQuF
  split <;> rfl
theorem move_2 {sa : Nat → Nat → Int32} {q : Nat → Int32} {k : Nat} {v : LSt} : (moveF sa q k v).1 2 = v.1 2 := by
  unfold moveF
  dsimp only
  repeat' split
  all_goals first | rfl | exact toQu_2
theorem itd_2 {sa : Nat → Nat → Int32} {q : Nat → Int32} : ∀ (j : Nat) (v : LSt), (itd (moveF sa q) j v).1 2 = v.1 2
  | 0, v => rfl
  | j + 1, v => (itd_2 j _).trans move_2
theorem qu_2 {sa : Nat → Nat → Int32} {q : Nat → Int32} {v : LSt} : (quL sa q v).1 2 = v.1 2 := by
  unfold quL
  repeat' split
  all_goals rfl
theorem tick_2 {sa : Nat → Nat → Int32} {q pg : Nat → Int32} {n : Nat} {v : (Nat → Int32) × LSt} : (tickL sa q pg n v).2.1 2 = v.2.1 2 := by
  unfold tickL fillL
  dsimp only
  rw [upf_ne _ _ (by decide), itd_2, qu_2]
theorem qu_out {sa a : Nat → Nat → Int32} {q f : Nat → Int32} (h1 : 0 ≤ f 3 ∧ f 3 < f 2) (h3 : f 4 - 1 ≤ 0) : quL sa q (f, a) = (upf (upf f 4 (f 4 - 1)) 3 (-1), judgeF sa q (f 3) a) := if_pos ⟨h1, h3⟩
theorem qu_stay {sa a : Nat → Nat → Int32} {q f : Nat → Int32} (h1 : 0 ≤ f 3 ∧ f 3 < f 2) (h3 : ¬ f 4 - 1 ≤ 0) : quL sa q (f, a) = (upf f 4 (f 4 - 1), a) := (if_neg (fun z => h3 z.2)).trans (if_pos h1)
theorem qu_no {sa a : Nat → Nat → Int32} {q f : Nat → Int32} (h1 : ¬ (0 ≤ f 3 ∧ f 3 < f 2)) : quL sa q (f, a) = (f, a) := (if_neg (fun z => h1 z.1)).trans (if_neg h1)
section TK
variable {d : Nat} {hh : AH} {h : AH} {T : Nat → Bool} {U S A : Nat → Nat → Int32} {J : Nat → Nat → Int64} {G : Nat → Nat} {K : AO → AH → Prop} {b s t n k : Nat} {x y z w : Int32} {f q pg : Nat → Int32} {a sa : Nat → Nat → Int32}
theorem s_tick2 (hb : isLine b = true) (hs : SUp h T (G b) t q sa n pg) (hn : zn (f 2) ≤ 20) : EvM (d + 4) 27 [.ref b] (MH h T U (pS S b f) (pA A b a) J G) (konN (d + 5) 17 72 [some (.ref b), some (.int x), some (.int y)] [] K) = K (.inl none) (MH h T U (pS S b (fillL q (f, a)).1) (pA A b (fillL q (f, a)).2) J G) := by
  rw [s_fillFirstZone hb hs hn]
  simp only [in17, i17_0, i17_1, i17_4, i17_5, i17_7, i17_8, i17_11, i17_14, i17_17, i17_18, i17_19, i17_22, i17_25, i17_28, i17_29, i17_32, i17_33, i17_34, i17_35, i17_38, i17_39, i17_40, i17_43, i17_44, i17_47, i17_50, i17_51, i17_52, i17_54, i17_57, i17_58, i17_59, i17_62, i17_65, i17_68, i17_69, i17_72, i17_73, i17_74, i17_77, i17_78, i17_79, i17_82, nl_i, nl_r, nl_0, nl_j, nb0, nb1, nbI, orv_s, konN_v, konN_n, konN_e, true_and, and_true, and_self, if_true, if_false, ite_true, ite_false, isR_ref, true_or, or_true, isR_null, rg10, rg11, rg12, rg13, rg14, rg15, rg16, rh13, rh14, rh15, rh16, k_l0 hb, k_l1 hb, k_l2 hb, k_l3 hb, k_l4 hb, k_l5 hb, k_l6 hb, k_l7 hb, k_l8 hb, k_l9 hb, k_l10 hb, l_l1 hb, l_l2 hb, l_l3 hb, l_l4 hb, l_l5 hb, l_l6 hb, l_l7 hb, l_l8 hb, l_l9 hb, l_l10 hb, a_l1 hb, a_l2 hb, a_l3 hb, a_l4 hb, a_l5 hb, a_l6 hb, a_l7 hb, a_l8 hb, a_l9 hb, a_l10 hb, wa_l1 hb, wa_l2 hb, wa_l3 hb, wa_l4 hb, wa_l5 hb, wa_l6 hb, wa_l7 hb, wa_l8 hb, wa_l9 hb, wa_l10 hb, f_l0 hb, f_l1 hb, f_l2 hb, f_l3 hb, f_l4 hb, f_l5 hb, f_l6 hb, f_l7 hb, f_l8 hb, f_l9 hb, f_l10 hb, f_l11 hb, f_l12 hb, f_l13 hb, f_l14 hb, w_l0 hb, w_l1 hb, w_l2 hb, w_l3 hb, w_l4 hb, pS_b, pS_up, pA_1, pA_2, pA_3, pA_4, pA_5, pA_6, pA_7, pA_8, pA_9, pA_10, pU_1, pU_2, pU_3, pU_4, pU_5, pU_6, pU_7, pU_8, pU_9, pU_10, mh_N, mh_S, mh_X, mh_alH]
  rfl
theorem s_tick_dn (hb : isLine b = true) (hs : SUp h T (G b) t q sa n pg) (hn : zn (f 2) ≤ 20) : ∀ j f a, j ≤ 6 → zn (f 2) ≤ 20 → Ev (d + 5) 17 53 [some (.ref b), some (.int x), some (.int (nI j - 1))] [] (MH h T U (pS S b f) (pA A b a) J G) K = K (.inl none) (MH h T U (pS S b (fillL q (itd (moveF sa q) j (f, a))).1) (pA A b (fillL q (itd (moveF sa q) j (f, a))).2) J G)
  | 0, f, a, hj, h2 => by
    rw [i17_53]
    simp only [in17, i17_0, i17_1, i17_4, i17_5, i17_7, i17_8, i17_11, i17_14, i17_17, i17_18, i17_19, i17_22, i17_25, i17_28, i17_29, i17_32, i17_33, i17_34, i17_35, i17_38, i17_39, i17_40, i17_43, i17_44, i17_47, i17_50, i17_51, i17_52, i17_54, i17_57, i17_58, i17_59, i17_62, i17_65, i17_68, i17_69, i17_72, i17_73, i17_74, i17_77, i17_78, i17_79, i17_82, nl_i, nl_r, nl_0, nl_j, nb0, nb1, nbI, orv_s, konN_v, konN_n, konN_e, true_and, and_true, and_self, if_true, if_false, ite_true, ite_false, isR_ref, true_or, or_true, isR_null, rg10, rg11, rg12, rg13, rg14, rg15, rg16, rh13, rh14, rh15, rh16, k_l0 hb, k_l1 hb, k_l2 hb, k_l3 hb, k_l4 hb, k_l5 hb, k_l6 hb, k_l7 hb, k_l8 hb, k_l9 hb, k_l10 hb, l_l1 hb, l_l2 hb, l_l3 hb, l_l4 hb, l_l5 hb, l_l6 hb, l_l7 hb, l_l8 hb, l_l9 hb, l_l10 hb, a_l1 hb, a_l2 hb, a_l3 hb, a_l4 hb, a_l5 hb, a_l6 hb, a_l7 hb, a_l8 hb, a_l9 hb, a_l10 hb, wa_l1 hb, wa_l2 hb, wa_l3 hb, wa_l4 hb, wa_l5 hb, wa_l6 hb, wa_l7 hb, wa_l8 hb, wa_l9 hb, wa_l10 hb, f_l0 hb, f_l1 hb, f_l2 hb, f_l3 hb, f_l4 hb, f_l5 hb, f_l6 hb, f_l7 hb, f_l8 hb, f_l9 hb, f_l10 hb, f_l11 hb, f_l12 hb, f_l13 hb, f_l14 hb, w_l0 hb, w_l1 hb, w_l2 hb, w_l3 hb, w_l4 hb, pS_b, pS_up, pA_1, pA_2, pA_3, pA_4, pA_5, pA_6, pA_7, pA_8, pA_9, pA_10, pU_1, pU_2, pU_3, pU_4, pU_5, pU_6, pU_7, pU_8, pU_9, pU_10, mh_N, mh_S, mh_X, mh_alH, nI_0, show ((0 : Int32) - 1 < 0) = True from eq_true (by decide), s_tick2 hb hs h2, itd]
  | j + 1, f, a, hj, h2 => by
    rw [nI_pred, i17_53]
    simp only [in17, i17_0, i17_1, i17_4, i17_5, i17_7, i17_8, i17_11, i17_14, i17_17, i17_18, i17_19, i17_22, i17_25, i17_28, i17_29, i17_32, i17_33, i17_34, i17_35, i17_38, i17_39, i17_40, i17_43, i17_44, i17_47, i17_50, i17_51, i17_52, i17_54, i17_57, i17_58, i17_59, i17_62, i17_65, i17_68, i17_69, i17_72, i17_73, i17_74, i17_77, i17_78, i17_79, i17_82, nl_i, nl_r, nl_0, nl_j, nb0, nb1, nbI, orv_s, konN_v, konN_n, konN_e, true_and, and_true, and_self, if_true, if_false, ite_true, ite_false, isR_ref, true_or, or_true, isR_null, rg10, rg11, rg12, rg13, rg14, rg15, rg16, rh13, rh14, rh15, rh16, k_l0 hb, k_l1 hb, k_l2 hb, k_l3 hb, k_l4 hb, k_l5 hb, k_l6 hb, k_l7 hb, k_l8 hb, k_l9 hb, k_l10 hb, l_l1 hb, l_l2 hb, l_l3 hb, l_l4 hb, l_l5 hb, l_l6 hb, l_l7 hb, l_l8 hb, l_l9 hb, l_l10 hb, a_l1 hb, a_l2 hb, a_l3 hb, a_l4 hb, a_l5 hb, a_l6 hb, a_l7 hb, a_l8 hb, a_l9 hb, a_l10 hb, wa_l1 hb, wa_l2 hb, wa_l3 hb, wa_l4 hb, wa_l5 hb, wa_l6 hb, wa_l7 hb, wa_l8 hb, wa_l9 hb, wa_l10 hb, f_l0 hb, f_l1 hb, f_l2 hb, f_l3 hb, f_l4 hb, f_l5 hb, f_l6 hb, f_l7 hb, f_l8 hb, f_l9 hb, f_l10 hb, f_l11 hb, f_l12 hb, f_l13 hb, f_l14 hb, w_l0 hb, w_l1 hb, w_l2 hb, w_l3 hb, w_l4 hb, pS_b, pS_up, pA_1, pA_2, pA_3, pA_4, pA_5, pA_6, pA_7, pA_8, pA_9, pA_10, pU_1, pU_2, pU_3, pU_4, pU_5, pU_6, pU_7, pU_8, pU_9, pU_10, mh_N, mh_S, mh_X, mh_alH, eq_false (nI_pos (show j < 2 ^ 31 by omega)), s_moveSheetFrom hb hs h2 (show j < 6 by omega)]
    rw [show nI j + -1 = nI j - 1 from (Int32.sub_eq_add_neg _ _).symm, s_tick_dn hb hs hn j _ _ (by omega) (by rw [move_2]; exact h2)]
    rfl
theorem s_tick_up (hb : isLine b = true) (hs : SUp h T (G b) t q sa n pg) (hn : zn (f 2) ≤ 20) : ∀ m k U a l, k + m = zn (q 0) → Ev (d + 5) 17 6 [some (.ref b), some (.int (nI k)), l] [] (MH h T U (pS S b f) (pA A b a) J G) K = K (.inl none) (MH h T (upf U (t + 2) (itn (hsF sa pg n f) k m (U (t + 2), a)).1) (pS S b (fillL q (itd (moveF sa q) (zn (q 0)) (quL sa q (f, (itn (hsF sa pg n f) k m (U (t + 2), a)).2)))).1) (pA A b (fillL q (itd (moveF sa q) (zn (q 0)) (quL sa q (f, (itn (hsF sa pg n f) k m (U (t + 2), a)).2)))).2) J G)
  | 0, k, U, a, l, hk => by
    have h6 : zn (q 0) ≤ 6 := hs.2.2.2.2.2.2.1.2
    have h0 : 0 ≤ q 0 := hs.2.2.2.2.2.2.1.1
    have dn := fun x f a (h2 : zn (f 2) ≤ 20) => s_tick_dn (d := d) (h := h) (T := T) (U := U) (S := S) (A := A) (J := J) (G := G) (K := K) (x := x) hb hs h2 (zn (q 0)) f a h6 h2
    rw [nI_zn h0] at dn
    rw [i17_6]
    simp only [in17, i17_0, i17_1, i17_4, i17_5, i17_7, i17_8, i17_11, i17_14, i17_17, i17_18, i17_19, i17_22, i17_25, i17_28, i17_29, i17_32, i17_33, i17_34, i17_35, i17_38, i17_39, i17_40, i17_43, i17_44, i17_47, i17_50, i17_51, i17_52, i17_54, i17_57, i17_58, i17_59, i17_62, i17_65, i17_68, i17_69, i17_72, i17_73, i17_74, i17_77, i17_78, i17_79, i17_82, nl_i, nl_r, nl_0, nl_j, nb0, nb1, nbI, orv_s, konN_v, konN_n, konN_e, true_and, and_true, and_self, if_true, if_false, ite_true, ite_false, isR_ref, true_or, or_true, isR_null, rg10, rg11, rg12, rg13, rg14, rg15, rg16, rh13, rh14, rh15, rh16, k_l0 hb, k_l1 hb, k_l2 hb, k_l3 hb, k_l4 hb, k_l5 hb, k_l6 hb, k_l7 hb, k_l8 hb, k_l9 hb, k_l10 hb, l_l1 hb, l_l2 hb, l_l3 hb, l_l4 hb, l_l5 hb, l_l6 hb, l_l7 hb, l_l8 hb, l_l9 hb, l_l10 hb, a_l1 hb, a_l2 hb, a_l3 hb, a_l4 hb, a_l5 hb, a_l6 hb, a_l7 hb, a_l8 hb, a_l9 hb, a_l10 hb, wa_l1 hb, wa_l2 hb, wa_l3 hb, wa_l4 hb, wa_l5 hb, wa_l6 hb, wa_l7 hb, wa_l8 hb, wa_l9 hb, wa_l10 hb, f_l0 hb, f_l1 hb, f_l2 hb, f_l3 hb, f_l4 hb, f_l5 hb, f_l6 hb, f_l7 hb, f_l8 hb, f_l9 hb, f_l10 hb, f_l11 hb, f_l12 hb, f_l13 hb, f_l14 hb, w_l0 hb, w_l1 hb, w_l2 hb, w_l3 hb, w_l4 hb, pS_b, pS_up, pA_1, pA_2, pA_3, pA_4, pA_5, pA_6, pA_7, pA_8, pA_9, pA_10, pU_1, pU_2, pU_3, pU_4, pU_5, pU_6, pU_7, pU_8, pU_9, pU_10, mh_N, mh_S, mh_X, mh_alH, su_k hs, su_f0 hs, nI_le_zn (show k < 2 ^ 31 by omega), show ¬ k < zn (q 0) by omega, not_false_eq_true, s_quench hb, itn, upf_id]
    by_cases h1 : 0 ≤ f 3 ∧ f 3 < f 2
    · have hm1 : ¬ f 3 = -1 := fun z => by rw [z] at h1; exact absurd h1.1 (by decide)
      by_cases h3 : f 4 - 1 ≤ 0
      · have e2 : (upf (upf f 4 (f 4 - 1)) 3 (-1)) 2 = f 2 := rfl
        have hj := fun K => s_judge (d := d + 2) (h := h) (T := T) (U := U) (S := S) (A := A) (J := J) (G := G) (K := K) (x := f 3) (f := upf (upf f 4 (f 4 - 1)) 3 (-1)) (a := a) hb hs (by rw [e2]; exact hn) (by rw [e2]; exact h1)
        rw [if_pos ⟨h1, h3⟩, qu_out h1 h3]
        simp only [in17, i17_0, i17_1, i17_4, i17_5, i17_7, i17_8, i17_11, i17_14, i17_17, i17_18, i17_19, i17_22, i17_25, i17_28, i17_29, i17_32, i17_33, i17_34, i17_35, i17_38, i17_39, i17_40, i17_43, i17_44, i17_47, i17_50, i17_51, i17_52, i17_54, i17_57, i17_58, i17_59, i17_62, i17_65, i17_68, i17_69, i17_72, i17_73, i17_74, i17_77, i17_78, i17_79, i17_82, nl_i, nl_r, nl_0, nl_j, nb0, nb1, nbI, orv_s, konN_v, konN_n, konN_e, true_and, and_true, and_self, if_true, if_false, ite_true, ite_false, isR_ref, true_or, or_true, isR_null, rg10, rg11, rg12, rg13, rg14, rg15, rg16, rh13, rh14, rh15, rh16, k_l0 hb, k_l1 hb, k_l2 hb, k_l3 hb, k_l4 hb, k_l5 hb, k_l6 hb, k_l7 hb, k_l8 hb, k_l9 hb, k_l10 hb, l_l1 hb, l_l2 hb, l_l3 hb, l_l4 hb, l_l5 hb, l_l6 hb, l_l7 hb, l_l8 hb, l_l9 hb, l_l10 hb, a_l1 hb, a_l2 hb, a_l3 hb, a_l4 hb, a_l5 hb, a_l6 hb, a_l7 hb, a_l8 hb, a_l9 hb, a_l10 hb, wa_l1 hb, wa_l2 hb, wa_l3 hb, wa_l4 hb, wa_l5 hb, wa_l6 hb, wa_l7 hb, wa_l8 hb, wa_l9 hb, wa_l10 hb, f_l0 hb, f_l1 hb, f_l2 hb, f_l3 hb, f_l4 hb, f_l5 hb, f_l6 hb, f_l7 hb, f_l8 hb, f_l9 hb, f_l10 hb, f_l11 hb, f_l12 hb, f_l13 hb, f_l14 hb, w_l0 hb, w_l1 hb, w_l2 hb, w_l3 hb, w_l4 hb, pS_b, pS_up, pA_1, pA_2, pA_3, pA_4, pA_5, pA_6, pA_7, pA_8, pA_9, pA_10, pU_1, pU_2, pU_3, pU_4, pU_5, pU_6, pU_7, pU_8, pU_9, pU_10, mh_N, mh_S, mh_X, mh_alH, hm1, if_false, su_k hs, su_f0 hs, hj]
        rw [dn _ _ _ (by rw [e2]; exact hn)]
      · have e2 : (upf f 4 (f 4 - 1)) 2 = f 2 := rfl
        rw [if_neg (fun z => h3 z.2), if_pos h1, qu_stay h1 h3]
        rw [dn _ _ _ (by rw [e2]; exact hn)]
    · rw [if_neg (fun z => h1 z.1), if_neg h1, qu_no h1]
      rw [dn _ _ _ hn]
  | m + 1, k, U, a, l, hk => by
    have h6 : zn (q 0) ≤ 6 := hs.2.2.2.2.2.2.1.2
    rw [i17_6]
    simp only [in17, i17_0, i17_1, i17_4, i17_5, i17_7, i17_8, i17_11, i17_14, i17_17, i17_18, i17_19, i17_22, i17_25, i17_28, i17_29, i17_32, i17_33, i17_34, i17_35, i17_38, i17_39, i17_40, i17_43, i17_44, i17_47, i17_50, i17_51, i17_52, i17_54, i17_57, i17_58, i17_59, i17_62, i17_65, i17_68, i17_69, i17_72, i17_73, i17_74, i17_77, i17_78, i17_79, i17_82, nl_i, nl_r, nl_0, nl_j, nb0, nb1, nbI, orv_s, konN_v, konN_n, konN_e, true_and, and_true, and_self, if_true, if_false, ite_true, ite_false, isR_ref, true_or, or_true, isR_null, rg10, rg11, rg12, rg13, rg14, rg15, rg16, rh13, rh14, rh15, rh16, k_l0 hb, k_l1 hb, k_l2 hb, k_l3 hb, k_l4 hb, k_l5 hb, k_l6 hb, k_l7 hb, k_l8 hb, k_l9 hb, k_l10 hb, l_l1 hb, l_l2 hb, l_l3 hb, l_l4 hb, l_l5 hb, l_l6 hb, l_l7 hb, l_l8 hb, l_l9 hb, l_l10 hb, a_l1 hb, a_l2 hb, a_l3 hb, a_l4 hb, a_l5 hb, a_l6 hb, a_l7 hb, a_l8 hb, a_l9 hb, a_l10 hb, wa_l1 hb, wa_l2 hb, wa_l3 hb, wa_l4 hb, wa_l5 hb, wa_l6 hb, wa_l7 hb, wa_l8 hb, wa_l9 hb, wa_l10 hb, f_l0 hb, f_l1 hb, f_l2 hb, f_l3 hb, f_l4 hb, f_l5 hb, f_l6 hb, f_l7 hb, f_l8 hb, f_l9 hb, f_l10 hb, f_l11 hb, f_l12 hb, f_l13 hb, f_l14 hb, w_l0 hb, w_l1 hb, w_l2 hb, w_l3 hb, w_l4 hb, pS_b, pS_up, pA_1, pA_2, pA_3, pA_4, pA_5, pA_6, pA_7, pA_8, pA_9, pA_10, pU_1, pU_2, pU_3, pU_4, pU_5, pU_6, pU_7, pU_8, pU_9, pU_10, mh_N, mh_S, mh_X, mh_alH, su_k hs, su_f0 hs, nI_le_zn (show k < 2 ^ 31 by omega), show k < zn (q 0) by omega, not_true, s_heatSheetIn hb hs hn (show k < 6 by omega), ← nI_succ]
    rw [s_tick_up hb hs hn m (k + 1) _ _ _ (by omega)]
    simp only [upf_same, upf_upf]
    rfl
theorem s_tick (hb : isLine b = true) (hs : SUp h T (G b) t q sa n pg) (hn : zn (f 2) ≤ 20) : EvM (d + 5) 17 [.ref b] (MH h T U (pS S b f) (pA A b a) J G) K = K (.inl none) (MH h T (upf U (t + 2) (tickL sa q pg n (U (t + 2), f, a)).1) (pS S b (tickL sa q pg n (U (t + 2), f, a)).2.1) (pA A b (tickL sa q pg n (U (t + 2), f, a)).2.2) J G) := by
  have key := fun a l => s_tick_up (d := d) (h := h) (T := T) (S := S) (A := A) (J := J) (G := G) (K := K) hb hs hn (zn (q 0)) 0 U a l (by omega)
  rw [nI_0] at key
  simp only [in17, i17_0, i17_1, i17_4, i17_5, i17_7, i17_8, i17_11, i17_14, i17_17, i17_18, i17_19, i17_22, i17_25, i17_28, i17_29, i17_32, i17_33, i17_34, i17_35, i17_38, i17_39, i17_40, i17_43, i17_44, i17_47, i17_50, i17_51, i17_52, i17_54, i17_57, i17_58, i17_59, i17_62, i17_65, i17_68, i17_69, i17_72, i17_73, i17_74, i17_77, i17_78, i17_79, i17_82, nl_i, nl_r, nl_0, nl_j, nb0, nb1, nbI, orv_s, konN_v, konN_n, konN_e, true_and, and_true, and_self, if_true, if_false, ite_true, ite_false, isR_ref, true_or, or_true, isR_null, rg10, rg11, rg12, rg13, rg14, rg15, rg16, rh13, rh14, rh15, rh16, k_l0 hb, k_l1 hb, k_l2 hb, k_l3 hb, k_l4 hb, k_l5 hb, k_l6 hb, k_l7 hb, k_l8 hb, k_l9 hb, k_l10 hb, l_l1 hb, l_l2 hb, l_l3 hb, l_l4 hb, l_l5 hb, l_l6 hb, l_l7 hb, l_l8 hb, l_l9 hb, l_l10 hb, a_l1 hb, a_l2 hb, a_l3 hb, a_l4 hb, a_l5 hb, a_l6 hb, a_l7 hb, a_l8 hb, a_l9 hb, a_l10 hb, wa_l1 hb, wa_l2 hb, wa_l3 hb, wa_l4 hb, wa_l5 hb, wa_l6 hb, wa_l7 hb, wa_l8 hb, wa_l9 hb, wa_l10 hb, f_l0 hb, f_l1 hb, f_l2 hb, f_l3 hb, f_l4 hb, f_l5 hb, f_l6 hb, f_l7 hb, f_l8 hb, f_l9 hb, f_l10 hb, f_l11 hb, f_l12 hb, f_l13 hb, f_l14 hb, w_l0 hb, w_l1 hb, w_l2 hb, w_l3 hb, w_l4 hb, pS_b, pS_up, pA_1, pA_2, pA_3, pA_4, pA_5, pA_6, pA_7, pA_8, pA_9, pA_10, pU_1, pU_2, pU_3, pU_4, pU_5, pU_6, pU_7, pU_8, pU_9, pU_10, mh_N, mh_S, mh_X, mh_alH, s_heatZones hb hs, key]
  rfl
end TK
