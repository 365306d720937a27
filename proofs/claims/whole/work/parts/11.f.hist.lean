/-! FACE: the kept lines -/
theorem oR_145 {k : Nat} (hk : k < 8) : oR1 145 k = some (146 + k) := by
  show (if k < 8 then some (146 + k) else none) = _
  exact if_pos hk
theorem own_h {k : Nat} (hk : k < 8) : own (146 + k) = true := (show ∀ k, k < 8 → own (146 + k) = true by decide) k hk
theorem okl_h {k : Nat} (hk : k < 8) : okl (146 + k) = (10, 1451) := (show ∀ k, k < 8 → okl (146 + k) = (10, 1451) by decide) k hk
theorem cp_deq {F E : Nat → Int32} : deq F (cpF F E) := fun i hi => if_pos hi
section HF
variable {h : AH} {T : Nat → Bool} {U S S' A A' : Nat → Nat → Int32} {J : Nat → Nat → Int64} {G G' : Nat → Nat} {nx kp : Nat}
theorem mr_loop : ∀ m k (A : Nat → Nat → Int32), k + 1 + m = 8 →
    ∃ A' : Nat → Nat → Int32, (∀ d K, Ev (d + 2) 156 11 [some (.ref 140), some (.int (nI (k + 1)))] [] (MH h T U S A J G) K = Ev (d + 2) 156 40 [some (.ref 140), some (.int (nI 8))] [] (MH h T U S A' J G) K) ∧
      (∀ i, i < 146 + k ∨ 152 < i → A' i = A i) ∧ ∀ i, k ≤ i → i < 7 → deq (A (147 + i)) (A' (146 + i))
  | 0, k, A, hk => by
    obtain rfl : k = 7 := by omega
    refine ⟨A, fun d K => ?_, fun _ _ => rfl, fun i h1 h2 => absurd h1 (by omega)⟩
    rw [i156_11]
    simp only [i156_12, i156_14, i156_17, i156_18, i156_21, i156_22, i156_23, i156_24, i156_27, i156_28, i156_29, i156_30, i156_31, i156_34, i156_37, nl_i, nl_r, nl_0, nl_j, nb0, nb1, nbI, orv_s, konN_v, konN_n, konN_e, true_and, and_true, and_self, if_true, if_false, ite_true, ite_false, isR_ref, true_or, or_true, bI_T, bI_F, bI_Fb, i1z, Bool.false_eq_true, show ((8 : Int32) ≤ nI (7 + 1)) = True from eq_true (by decide)]
  | m + 1, k, A, hk => by
    have k7 : k < 7 := by omega
    obtain ⟨A', r, h1, h2⟩ := mr_loop m (k + 1) (upf A (146 + k) (cpF (A (146 + (k + 1))) (A (146 + k)))) (by omega)
    refine ⟨A', fun d K => ?_, fun i hi => ?_, fun i i1 i2 => ?_⟩
    · rw [← r, i156_11]
      have c := fun K => s_copy (d := d + 1) (h := h) (T := T) (U := U) (S := S) (A := A) (J := J) (G := G) (K := K) (own_h (k := k + 1) (by omega)) (own_h (k := k) (by omega)) (okl_h (by omega)) (okl_h (by omega)) (by omega)
      have hle : ((8 : Int32) ≤ nI (k + 1)) = False := eq_false (fun y => by
        have := (nI_leI (a := 8) (b := k + 1) (by omega) (by omega)).mp y
        omega)
      simp only [i156_12, i156_14, i156_17, i156_18, i156_21, i156_22, i156_23, i156_24, i156_27, i156_28, i156_29, i156_30, i156_31, i156_34, i156_37, nl_i, nl_r, nl_0, nl_j, nb0, nb1, nbI, orv_s, konN_v, konN_n, konN_e, true_and, and_true, and_self, if_true, if_false, ite_true, ite_false, isR_ref, true_or, or_true, bI_T, bI_F, bI_Fb, i1z, Bool.false_eq_true, mh_N, mh_S, mh_X, mh_alH, f_0_0, f_0_1, f_0_2, f_0_3, f_13_0, f_13_1, w_13_1, f_13_2, w_13_2, f_13_3, w_13_3, f_13_4, w_13_4, f_13_5, w_13_5, f_13_6, w_13_6, f_13_7, w_13_7, f_13_8, w_13_8, f_13_9, f_13_10, w_13_10, f_13_11, f_13_12, w_13_12, f_50_0, f_50_1, w_50_1, f_50_2, w_50_2, f_140_0, w_140_0, f_140_1, f_140_2, w_140_2, f_140_3, w_140_3, f_140_4, w_140_4, f_140_5, w_140_5, f_140_6, w_140_6, f_140_7, w_140_7, f_140_8, f_140_9, f_140_10, f_140_11, f_140_12, w_140_12, f_140_13, w_140_13, f_140_14, w_140_14, f_140_15, w_13_9, k_0, l_0, k_13, l_13, k_14, l_14, k_15, l_15, k_50, l_50, k_51, l_51, k_140, l_140, k_141, l_141, k_142, l_142, k_143, l_143, k_144, l_144, k_145, l_145, k_146, l_146, k_147, l_147, k_148, l_148, k_149, l_149, k_150, l_150, k_151, l_151, k_152, l_152, k_153, l_153, k_154, l_154, k_155, l_155, a_14, wa_14, a_15, wa_15, a_141, wa_141, a_142, wa_142, a_143, wa_143, a_144, wa_144, a_146, wa_146, a_147, wa_147, a_148, wa_148, a_149, wa_149, a_150, wa_150, a_151, wa_151, a_152, wa_152, a_153, wa_153, j_154, j_155, wj_154, wj_155, r_51, r_145, hle, nI_pred, inbT (show k < 8 by omega) (show 8 < 2 ^ 31 by omega), inbT (show k + 1 < 8 by omega) (show 8 < 2 ^ 31 by omega), zn_nI (show k < 2 ^ 31 by omega), zn_nI (show k + 1 < 2 ^ 31 by omega), oR_145 (show k < 8 by omega), oR_145 (show k + 1 < 8 by omega), c, nI_1]
    · rw [h1 i (by omega)]
      exact upf_ne _ _ (by omega)
    · by_cases e : i = k
      · subst e
        rw [h1 (146 + i) (by omega), upf_same]
        exact (show 147 + i = 146 + (i + 1) by omega) ▸ cp_deq
      · have h3 := h2 i (by omega) i2
        rw [upf_ne _ _ (show ¬ 147 + i = 146 + k by omega)] at h3
        exact h3
theorem s_mRem (hk : S 140 12 = nI kp) (hk8 : kp ≤ 8) :
    ∃ A' : Nat → Nat → Int32, (∀ d K, EvM (d + 2) 156 [.ref 140] (MH h T U S A J G) K = K (.inl none) (MH h T U (up2 S 140 12 (nI (min (kp + 1) 8))) A' J G)) ∧
      (∀ i, i < 146 ∨ 153 < i → A' i = A i) ∧ deq (A 142) (A' (146 + (min (kp + 1) 8 - 1))) ∧ ∀ i, i + 1 < min (kp + 1) 8 → deq (A (146 + (if kp = 8 then i + 1 else i))) (A' (146 + i)) := by
  by_cases e : kp = 8
  · subst e
    obtain ⟨A1, r, h1, h2⟩ := mr_loop (h := h) (T := T) (U := U) (S := S) (J := J) (G := G) 7 0 A (by omega)
    refine ⟨upf A1 (146 + 7) (cpF (A1 142) (A1 (146 + 7))), fun d K => ?_, fun i hi => ?_, ?_, fun i hi => ?_⟩
    · have c := fun K => s_copy (d := d + 1) (h := h) (T := T) (U := U) (S := up2 S 140 12 (nI 7)) (A := A1) (J := J) (G := G) (K := K) (x := 142) (y := 146 + 7) rfl rfl rfl rfl (by omega)
      have r1 := r d K
      rw [show (nI (0 + 1) : Int32) = 1 from rfl] at r1
      simp only [i156_0, i156_1, i156_4, i156_6, i156_9, i156_10, in156, nl_i, nl_r, nl_0, nl_j, nb0, nb1, nbI, orv_s, konN_v, konN_n, konN_e, true_and, and_true, and_self, if_true, if_false, ite_true, ite_false, isR_ref, true_or, or_true, bI_T, bI_F, bI_Fb, i1z, Bool.false_eq_true, mh_N, mh_S, mh_X, mh_alH, f_0_0, f_0_1, f_0_2, f_0_3, f_13_0, f_13_1, w_13_1, f_13_2, w_13_2, f_13_3, w_13_3, f_13_4, w_13_4, f_13_5, w_13_5, f_13_6, w_13_6, f_13_7, w_13_7, f_13_8, w_13_8, f_13_9, f_13_10, w_13_10, f_13_11, f_13_12, w_13_12, f_50_0, f_50_1, w_50_1, f_50_2, w_50_2, f_140_0, w_140_0, f_140_1, f_140_2, w_140_2, f_140_3, w_140_3, f_140_4, w_140_4, f_140_5, w_140_5, f_140_6, w_140_6, f_140_7, w_140_7, f_140_8, f_140_9, f_140_10, f_140_11, f_140_12, w_140_12, f_140_13, w_140_13, f_140_14, w_140_14, f_140_15, w_13_9, k_0, l_0, k_13, l_13, k_14, l_14, k_15, l_15, k_50, l_50, k_51, l_51, k_140, l_140, k_141, l_141, k_142, l_142, k_143, l_143, k_144, l_144, k_145, l_145, k_146, l_146, k_147, l_147, k_148, l_148, k_149, l_149, k_150, l_150, k_151, l_151, k_152, l_152, k_153, l_153, k_154, l_154, k_155, l_155, a_14, wa_14, a_15, wa_15, a_141, wa_141, a_142, wa_142, a_143, wa_143, a_144, wa_144, a_146, wa_146, a_147, wa_147, a_148, wa_148, a_149, wa_149, a_150, wa_150, a_151, wa_151, a_152, wa_152, a_153, wa_153, j_154, j_155, wj_154, wj_155, r_51, r_145, hk, show ((8 : Int32) = nI 8) = True from eq_true rfl, show (nI 8 = (8 : Int32)) = True from eq_true rfl, r1, i156_40, i156_41, i156_42, i156_45, i156_46, i156_47, i156_50, i156_51, i156_54, i156_55, i156_58, i156_59, i156_62, i156_63, i156_66, i156_67, i156_68, i156_71, i156_72, i156_73, i156_76, show nI 8 - 1 = nI 7 from rfl, up2_eq', inbT (show 7 < 8 by omega) (show 8 < 2 ^ 31 by omega), zn_nI (show 7 < 2 ^ 31 by omega), oR_145 (show 7 < 8 by omega), c, up2_up2]
      rfl
    · rw [upf_ne _ _ (by omega), h1 i (by omega)]
    · show deq (A 142) (upf A1 153 (cpF (A1 142) (A1 153)) 153)
      rw [upf_same, h1 142 (by omega)]
      exact cp_deq
    · have hi7 : i < 7 := by omega
      rw [if_pos rfl, upf_ne _ _ (by omega)]
      exact (show 147 + i = 146 + (i + 1) by omega) ▸ h2 i (by omega) hi7
  · have k8 : kp < 8 := by omega
    have em : min (kp + 1) 8 = kp + 1 := by omega
    refine ⟨upf A (146 + kp) (cpF (A 142) (A (146 + kp))), fun d K => ?_, fun i hi => upf_ne _ _ (by omega), ?_, fun i hi => ?_⟩
    · have c := fun K => s_copy (d := d + 1) (h := h) (T := T) (U := U) (S := S) (A := A) (J := J) (G := G) (K := K) (x := 142) (y := 146 + kp) rfl (own_h k8) rfl (okl_h k8) (by omega)
      have n8 : (nI kp = (8 : Int32)) = False := eq_false (fun y => by
        have := (nI_eq (a := kp) (b := 8) (by omega) (by omega)).mp y
        omega)
      simp only [i156_0, i156_1, i156_4, i156_6, i156_9, i156_10, in156, nl_i, nl_r, nl_0, nl_j, nb0, nb1, nbI, orv_s, konN_v, konN_n, konN_e, true_and, and_true, and_self, if_true, if_false, ite_true, ite_false, isR_ref, true_or, or_true, bI_T, bI_F, bI_Fb, i1z, Bool.false_eq_true, mh_N, mh_S, mh_X, mh_alH, f_0_0, f_0_1, f_0_2, f_0_3, f_13_0, f_13_1, w_13_1, f_13_2, w_13_2, f_13_3, w_13_3, f_13_4, w_13_4, f_13_5, w_13_5, f_13_6, w_13_6, f_13_7, w_13_7, f_13_8, w_13_8, f_13_9, f_13_10, w_13_10, f_13_11, f_13_12, w_13_12, f_50_0, f_50_1, w_50_1, f_50_2, w_50_2, f_140_0, w_140_0, f_140_1, f_140_2, w_140_2, f_140_3, w_140_3, f_140_4, w_140_4, f_140_5, w_140_5, f_140_6, w_140_6, f_140_7, w_140_7, f_140_8, f_140_9, f_140_10, f_140_11, f_140_12, w_140_12, f_140_13, w_140_13, f_140_14, w_140_14, f_140_15, w_13_9, k_0, l_0, k_13, l_13, k_14, l_14, k_15, l_15, k_50, l_50, k_51, l_51, k_140, l_140, k_141, l_141, k_142, l_142, k_143, l_143, k_144, l_144, k_145, l_145, k_146, l_146, k_147, l_147, k_148, l_148, k_149, l_149, k_150, l_150, k_151, l_151, k_152, l_152, k_153, l_153, k_154, l_154, k_155, l_155, a_14, wa_14, a_15, wa_15, a_141, wa_141, a_142, wa_142, a_143, wa_143, a_144, wa_144, a_146, wa_146, a_147, wa_147, a_148, wa_148, a_149, wa_149, a_150, wa_150, a_151, wa_151, a_152, wa_152, a_153, wa_153, j_154, j_155, wj_154, wj_155, r_51, r_145, hk, n8, i156_50, i156_51, i156_54, i156_55, i156_58, i156_59, i156_62, i156_63, i156_66, i156_67, i156_68, i156_71, i156_72, i156_73, i156_76, inbT k8 (show 8 < 2 ^ 31 by omega), zn_nI (show kp < 2 ^ 31 by omega), oR_145 k8, c, nI_1, em]
    · rw [em, Nat.add_sub_cancel, upf_same]
      exact cp_deq
    · rw [if_neg e, upf_ne _ _ (by omega)]
      exact deq_id
theorem HR_push (hn : nx < 8) (hk : kp ≤ 8) (hL : LR h T (G 28) (S 28) (fun j => A (28 + j)) (A 142)) (H : ∀ i, i < kp → LR h T (G (rwI nx kp i)) (S (rwI nx kp i)) (fun j => A (rwI nx kp i + j)) (A (146 + i)))
    (h1 : S' 50 1 = nI ((nx + 1) % 8)) (h2 : S' 50 2 = nI (min (kp + 1) 8)) (h3 : S' 140 12 = nI (min (kp + 1) 8))
    (hS : ∀ r, r < 8 → ¬ r = nx → S' (52 + 11 * r) = S (52 + 11 * r)) (hSn : S' (52 + 11 * nx) = S 28)
    (hA : ∀ r j, r < 8 → ¬ r = nx → 1 ≤ j → j ≤ 10 → A' (52 + 11 * r + j) = A (52 + 11 * r + j)) (hAn : ∀ j, 1 ≤ j → j ≤ 10 → A' (52 + 11 * nx + j) = A (28 + j))
    (hg : ∀ r, r < 8 → ¬ r = nx → G' (52 + 11 * r) = G (52 + 11 * r)) (hgn : G' (52 + 11 * nx) = G 28)
    (hd : deq (A 142) (A' (146 + (min (kp + 1) 8 - 1)))) (hd2 : ∀ i, i + 1 < min (kp + 1) 8 → deq (A (146 + (if kp = 8 then i + 1 else i))) (A' (146 + i))) : HR h T S' A' G' := by
  refine ⟨(nx + 1) % 8, min (kp + 1) 8, ⟨by omega, by omega⟩, ⟨h1, h2, h3⟩, fun i hi => ?_⟩
  by_cases e : i + 1 = min (kp + 1) 8
  · have er : rwI ((nx + 1) % 8) (min (kp + 1) 8) i = 52 + 11 * nx := by
      unfold rwI
      omega
    have ei : i = min (kp + 1) 8 - 1 := by omega
    rw [er, hgn, hSn]
    rw [← ei] at hd
    exact LR_cg hL fr_id frT_id (Nat.le_refl _) (fun j j1 j2 => hAn j j1 j2) hd
  · have hi2 : i + 1 < min (kp + 1) 8 := by omega
    have hd3 := hd2 i hi2
    obtain ⟨r, er, r8, rn, ei⟩ : ∃ r, rwI ((nx + 1) % 8) (min (kp + 1) 8) i = 52 + 11 * r ∧ r < 8 ∧ ¬ r = nx ∧ rwI nx kp (if kp = 8 then i + 1 else i) = 52 + 11 * r := by
      refine ⟨((nx + 1) % 8 + 8 - min (kp + 1) 8 + i) % 8, rfl, by omega, by omega, ?_⟩
      unfold rwI
      split <;> omega
    have hl := H (if kp = 8 then i + 1 else i) (by split <;> omega)
    rw [ei] at hl
    rw [er, hg r r8 rn, hS r r8 rn]
    exact LR_cg hl fr_id frT_id (Nat.le_refl _) (fun j j1 j2 => hA r j r8 rn j1 j2) hd3
end HF
