/-! THE HISTORY -/
theorem isLine_row {j : Nat} (hj : j < 8) : isLine (52 + 11 * j) = true := by
  unfold isLine
  simp only [Bool.or_eq_true, beq_iff_eq]
  omega
theorem oR_51 {j : Nat} (hj : j < 8) : oR1 51 j = some (52 + 11 * j) := if_pos hj
theorem hist_next : ∀ j, j < 8 → (nI j + 1) - (nI j + 1) / 8 * 8 = nI ((j + 1) % 8) := by decide +kernel
theorem hist_prev : ∀ j, j < 8 → (nI j + 8 - 1) - (nI j + 8 - 1) / 8 * 8 = nI ((j + 7) % 8) := by decide +kernel
theorem hist_kept : ∀ j, j ≤ 8 → (if (8 : Int32) < nI j + 1 then 8 else nI j + 1) = nI (min (j + 1) 8) := by
  have : ∀ j, j < 9 → (if (8 : Int32) < nI j + 1 then 8 else nI j + 1) = nI (min (j + 1) 8) := by decide +kernel
  intro j hj
  exact this j (by omega)
theorem pS_ne {S : Nat → Nat → Int32} {b i k : Nat} {f : Nat → Int32} (h : ¬ i = b) : pS S b f i k = S i k := if_neg h
theorem up2_same {S : Nat → Nat → Int32} {i k : Nat} {v : Int32} : up2 S i k v i k = v := if_pos ⟨rfl, rfl⟩
theorem up2_ne {S : Nat → Nat → Int32} {i k j l : Nat} {v : Int32} (h : ¬ (j = i ∧ l = k)) : up2 S i k v j l = S j l := if_neg h
section HI
variable {d : Nat} {h : AH} {T : Nat → Bool} {U S A : Nat → Nat → Int32} {J : Nat → Nat → Int64} {G : Nat → Nat} {K : AO → AH → Prop} {b c s t n nx kp : Nat}
theorem s_remember (hx : S 50 1 = nI nx) (hx8 : nx < 8) (hk : S 50 2 = nI kp) (hk8 : kp ≤ 8) : EvM (d + 2) 4 [.ref 50, .ref 28] (MH h T U S A J G) K =
    K (.inl none) (MH h T U (up2 (up2 (pS S (52 + 11 * nx) (S 28)) 50 1 (nI ((nx + 1) % 8))) 50 2 (nI (min (kp + 1) 8))) (pA A (52 + 11 * nx) (fun j => A (28 + j))) J (upf G (52 + 11 * nx) (G 28))) := by
  have hb := isLine_row hx8
  have hn : ¬ 50 = 52 + 11 * nx := by omega
  have hc := fun K => s_copyFrom (d := d) (h := h) (T := T) (U := U) (S := S) (A := A) (J := J) (G := G) (K := K) (c := 28) hb rfl (by omega)
  simp only [in4, i4_0, i4_1, i4_4, i4_5, i4_8, i4_9, i4_10, i4_13, i4_14, i4_15, i4_18, i4_19, i4_20, i4_22, i4_23, i4_26, i4_27, i4_28, i4_31, i4_32, i4_33, i4_35, i4_38, i4_41, nl_i, nl_r, nl_0, nl_j, nb0, nb1, nbI, orv_s, konN_v, konN_n, konN_e, true_and, and_true, and_self, if_true, if_false, ite_true, ite_false, isR_ref, true_or, or_true, isR_null, rg10, rg11, rg12, rg13, rg14, rg15, rg16, rh13, rh14, rh15, rh16, mh_N, mh_S, mh_X, mh_alH, f_0_0, f_0_1, f_0_2, f_0_3, f_13_0, f_13_1, w_13_1, f_13_2, w_13_2, f_13_3, w_13_3, f_13_4, w_13_4, f_13_5, w_13_5, f_13_6, w_13_6, f_13_7, w_13_7, f_13_8, w_13_8, f_13_9, f_13_10, w_13_10, f_13_11, f_13_12, w_13_12, f_50_0, f_50_1, w_50_1, f_50_2, w_50_2, w_13_9, k_0, l_0, k_13, l_13, k_14, l_14, k_15, l_15, k_50, l_50, k_51, l_51, a_14, wa_14, a_15, wa_15, r_51, hx, hk, inbT hx8 (show 8 < 2 ^ 31 by omega), nI_clamp (show nx < 2 ^ 31 by omega), oR_51 hx8, k_l0 hb, hc, pS_ne hn, up2_ne (show ¬ (50 = 50 ∧ 2 = 1) by decide), hist_next nx hx8, hist_kept kp hk8, show ((8 : Int32) = 0) = False from eq_false (by decide), not_false_eq_true]
theorem s_restore (hx : S 50 1 = nI nx) (hx8 : nx < 8) (hk : S 50 2 = nI kp) (hk8 : kp ≤ 8) : EvM (d + 2) 5 [.ref 50, .ref 28] (MH h T U S A J G) K =
    if kp = 0 then K (.inl (some (.int (-1)))) (MH h T U S A J G) else
    K (.inl (some (.int (nI (kp - 1))))) (MH h T U (up2 (pS (up2 S 50 1 (nI ((nx + 7) % 8))) 28 (up2 S 50 1 (nI ((nx + 7) % 8)) (52 + 11 * ((nx + 7) % 8)))) 50 2 (nI (kp - 1))) (pA A 28 (fun j => A (52 + 11 * ((nx + 7) % 8) + j))) J (upf G 28 (G (52 + 11 * ((nx + 7) % 8))))) := by
  have h8 : (nx + 7) % 8 < 8 := Nat.mod_lt _ (by decide)
  have hb := isLine_row h8
  have hc := fun S K => s_copyFrom (d := d) (h := h) (T := T) (U := U) (S := S) (A := A) (J := J) (G := G) (K := K) (b := 28) (c := 52 + 11 * ((nx + 7) % 8)) rfl hb (by omega)
  by_cases h0 : kp = 0
  · subst h0
    rw [if_pos rfl]
    simp only [in5, i5_0, i5_1, i5_4, i5_7, i5_8, i5_9, i5_10, i5_11, i5_14, i5_16, i5_17, i5_18, i5_19, i5_21, i5_22, i5_25, i5_26, i5_27, i5_30, i5_31, i5_34, i5_35, i5_38, i5_39, i5_40, i5_43, i5_44, i5_45, i5_48, i5_49, i5_52, nl_i, nl_r, nl_0, nl_j, nb0, nb1, nbI, orv_s, konN_v, konN_n, konN_e, true_and, and_true, and_self, if_true, if_false, ite_true, ite_false, isR_ref, true_or, or_true, isR_null, rg10, rg11, rg12, rg13, rg14, rg15, rg16, rh13, rh14, rh15, rh16, mh_N, mh_S, mh_X, mh_alH, f_0_0, f_0_1, f_0_2, f_0_3, f_13_0, f_13_1, w_13_1, f_13_2, w_13_2, f_13_3, w_13_3, f_13_4, w_13_4, f_13_5, w_13_5, f_13_6, w_13_6, f_13_7, w_13_7, f_13_8, w_13_8, f_13_9, f_13_10, w_13_10, f_13_11, f_13_12, w_13_12, f_50_0, f_50_1, w_50_1, f_50_2, w_50_2, w_13_9, k_0, l_0, k_13, l_13, k_14, l_14, k_15, l_15, k_50, l_50, k_51, l_51, a_14, wa_14, a_15, wa_15, r_51, hk, nI_0]
  · rw [if_neg h0]
    obtain ⟨e, rfl⟩ : ∃ e, kp = e + 1 := ⟨kp - 1, by omega⟩
    have n0 : (nI (e + 1) = 0) = False := eq_false (nI_ne0 (by omega) (by omega))
    simp only [in5, i5_0, i5_1, i5_4, i5_7, i5_8, i5_9, i5_10, i5_11, i5_14, i5_16, i5_17, i5_18, i5_19, i5_21, i5_22, i5_25, i5_26, i5_27, i5_30, i5_31, i5_34, i5_35, i5_38, i5_39, i5_40, i5_43, i5_44, i5_45, i5_48, i5_49, i5_52, nl_i, nl_r, nl_0, nl_j, nb0, nb1, nbI, orv_s, konN_v, konN_n, konN_e, true_and, and_true, and_self, if_true, if_false, ite_true, ite_false, isR_ref, true_or, or_true, isR_null, rg10, rg11, rg12, rg13, rg14, rg15, rg16, rh13, rh14, rh15, rh16, mh_N, mh_S, mh_X, mh_alH, f_0_0, f_0_1, f_0_2, f_0_3, f_13_0, f_13_1, w_13_1, f_13_2, w_13_2, f_13_3, w_13_3, f_13_4, w_13_4, f_13_5, w_13_5, f_13_6, w_13_6, f_13_7, w_13_7, f_13_8, w_13_8, f_13_9, f_13_10, w_13_10, f_13_11, f_13_12, w_13_12, f_50_0, f_50_1, w_50_1, f_50_2, w_50_2, w_13_9, k_0, l_0, k_13, l_13, k_14, l_14, k_15, l_15, k_50, l_50, k_51, l_51, a_14, wa_14, a_15, wa_15, r_51, hk, n0, hx, hist_prev nx hx8, up2_same, inbT h8 (show 8 < 2 ^ 31 by omega), nI_clamp (show (nx + 7) % 8 < 2 ^ 31 by omega), oR_51 h8, k_l0 (show isLine 28 = true from rfl), hc, pS_ne (show ¬ 50 = 28 by decide), up2_ne (show ¬ (50 = 50 ∧ 2 = 1) by decide), nI_pred, show ((8 : Int32) = 0) = False from eq_false (by decide), not_false_eq_true, Nat.add_sub_cancel]
end HI
