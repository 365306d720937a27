/-! FACE: what the class's calls have in common -/
def mH (c : HP) : AH := MH c.1 c.2.1 c.2.2.1 c.2.2.2.1 c.2.2.2.2.1 c.2.2.2.2.2.1 c.2.2.2.2.2.2
section FC
variable {d : Nat} {h : AH} {hh : AH} {T : Nat → Bool} {U S A : Nat → Nat → Int32} {J : Nat → Nat → Int64} {G : Nat → Nat} {K : AO → AH → Prop} {c c1 : HP} {x y v w n u : Int32} {nz ns k nx kp : Nat} {t m : Nat} {q pg : Nat → Int32} {sa : Nat → Nat → Int32}
theorem hb28 : isLine 28 = true := rfl
theorem hb39 : isLine 39 = true := rfl
theorem i1n0 : ((1 : Int32) = 0) = False := eq_false (by decide)
theorem s_ri0 (hx : 0 ≤ x ∧ x < n) : EvM d 80 [.int x, .int n] hh K = K (.inl none) hh := by
  simp only [in80, i80_0, i80_1, i80_4, i80_5, i80_6, i80_9, i80_12, i80_13, i80_19, nl_i, nl_r, nl_0, nl_j, nb0, nb1, nbI, orv_s, konN_v, konN_n, konN_e, true_and, and_true, and_self, if_true, if_false, ite_true, ite_false, isR_ref, true_or, or_true, isR_null, rg10, rg11, rg12, rg13, rg14, rg15, rg16, rh13, rh14, rh15, rh16, bI_T, bI_F, bI_Fb, i1z, Bool.false_eq_true, show (x < 0) = False from eq_false (Int32.not_lt.mpr hx.1), show (x < n) = True from eq_true hx.2]
theorem s_ri1 (hx : ¬ (0 ≤ x ∧ x < n)) : EvM (d + 10) 80 [.int x, .int n] hh K = K (.inr 2) (alH hh) := by
  by_cases h1 : x < 0
  · simp only [in80, i80_0, i80_1, i80_4, i80_5, i80_6, i80_9, i80_12, i80_13, i80_19, nl_i, nl_r, nl_0, nl_j, nb0, nb1, nbI, orv_s, konN_v, konN_n, konN_e, true_and, and_true, and_self, if_true, if_false, ite_true, ite_false, isR_ref, true_or, or_true, isR_null, rg10, rg11, rg12, rg13, rg14, rg15, rg16, rh13, rh14, rh15, rh16, bI_T, bI_F, bI_Fb, i1z, Bool.false_eq_true, show (x < 0) = True from eq_true h1]
  · simp only [in80, i80_0, i80_1, i80_4, i80_5, i80_6, i80_9, i80_12, i80_13, i80_19, nl_i, nl_r, nl_0, nl_j, nb0, nb1, nbI, orv_s, konN_v, konN_n, konN_e, true_and, and_true, and_self, if_true, if_false, ite_true, ite_false, isR_ref, true_or, or_true, isR_null, rg10, rg11, rg12, rg13, rg14, rg15, rg16, rh13, rh14, rh15, rh16, bI_T, bI_F, bI_Fb, i1z, Bool.false_eq_true, show (x < 0) = False from eq_false h1, show (x < n) = False from eq_false (fun z => hx ⟨Int32.not_lt.mp h1, z⟩)]
theorem s_within : EvM d 81 [.int u, .int v, .int w] hh K = K (.inl (some (.int (bI (v ≤ u ∧ u ≤ w))))) hh := by
  by_cases h1 : v ≤ u
  · by_cases h2 : u ≤ w
    · rw [bI_t ⟨h1, h2⟩]
      simp only [in81, i81_0, i81_1, i81_2, i81_5, i81_6, i81_7, i81_10, i81_11, i81_14, i81_15, nl_i, nl_r, nl_0, nl_j, nb0, nb1, nbI, orv_s, konN_v, konN_n, konN_e, true_and, and_true, and_self, if_true, if_false, ite_true, ite_false, isR_ref, true_or, or_true, isR_null, rg10, rg11, rg12, rg13, rg14, rg15, rg16, rh13, rh14, rh15, rh16, bI_T, bI_F, bI_Fb, i1z, Bool.false_eq_true, show (u < v) = False from eq_false (Int32.not_lt.mpr h1), show (w < u) = False from eq_false (Int32.not_lt.mpr h2)]
    · rw [bI_f (fun z => h2 z.2)]
      simp only [in81, i81_0, i81_1, i81_2, i81_5, i81_6, i81_7, i81_10, i81_11, i81_14, i81_15, nl_i, nl_r, nl_0, nl_j, nb0, nb1, nbI, orv_s, konN_v, konN_n, konN_e, true_and, and_true, and_self, if_true, if_false, ite_true, ite_false, isR_ref, true_or, or_true, isR_null, rg10, rg11, rg12, rg13, rg14, rg15, rg16, rh13, rh14, rh15, rh16, bI_T, bI_F, bI_Fb, i1z, Bool.false_eq_true, show (u < v) = False from eq_false (Int32.not_lt.mpr h1), show (w < u) = True from eq_true (Int32.not_le.mp h2)]
  · rw [bI_f (fun z => h1 z.1)]
    simp only [in81, i81_0, i81_1, i81_2, i81_5, i81_6, i81_7, i81_10, i81_11, i81_14, i81_15, nl_i, nl_r, nl_0, nl_j, nb0, nb1, nbI, orv_s, konN_v, konN_n, konN_e, true_and, and_true, and_self, if_true, if_false, ite_true, ite_false, isR_ref, true_or, or_true, isR_null, rg10, rg11, rg12, rg13, rg14, rg15, rg16, rh13, rh14, rh15, rh16, bI_T, bI_F, bI_Fb, i1z, Bool.false_eq_true, show (u < v) = True from eq_true (Int32.not_le.mp h1)]
theorem s_ra0 (hx : v ≤ u ∧ u ≤ w) : EvM (d + 1) 79 [.int u, .int v, .int w] hh K = K (.inl none) hh := by
  simp only [in79, i79_0, i79_1, i79_2, i79_3, i79_6, i79_9, i79_12, i79_13, i79_19, nl_i, nl_r, nl_0, nl_j, nb0, nb1, nbI, orv_s, konN_v, konN_n, konN_e, true_and, and_true, and_self, if_true, if_false, ite_true, ite_false, isR_ref, true_or, or_true, isR_null, rg10, rg11, rg12, rg13, rg14, rg15, rg16, rh13, rh14, rh15, rh16, bI_T, bI_F, bI_Fb, i1z, Bool.false_eq_true, s_within, bI_t hx, i1n0]
theorem s_ra1 (hx : ¬ (v ≤ u ∧ u ≤ w)) : EvM (d + 10) 79 [.int u, .int v, .int w] hh K = K (.inr 0) (alH hh) := by
  simp only [in79, i79_0, i79_1, i79_2, i79_3, i79_6, i79_9, i79_12, i79_13, i79_19, nl_i, nl_r, nl_0, nl_j, nb0, nb1, nbI, orv_s, konN_v, konN_n, konN_e, true_and, and_true, and_self, if_true, if_false, ite_true, ite_false, isR_ref, true_or, or_true, isR_null, rg10, rg11, rg12, rg13, rg14, rg15, rg16, rh13, rh14, rh15, rh16, bI_T, bI_F, bI_Fb, i1z, Bool.false_eq_true, s_within, bI_f hx]
theorem p_sheetsIn (hn : zn (S 28 2) ≤ 20) : EvM d 14 [.ref 28, .int w] (MH h T U S A J G) K = K (.inl (some (.int (cnt (A (28 + 6)) w (zn (S 28 2)))))) (MH h T U S A J G) := by
  have e := s_sheetsIn (d := d) (h := h) (T := T) (U := U) (S := S) (A := A) (J := J) (G := G) (K := K) (w := w) (f := S 28) (a := fun j => A (28 + j)) hb28 hn
  rw [pS_id, pA_id] at e
  exact e
def thF (x y : Int32) : Int32 := (40 * x + y / 2) / y
theorem s_thOf (hy : 1 ≤ y) : EvM d 84 [.int x, .int y] hh K = K (.inl (some (.int (thF x y)))) hh := by
  have h0 : (y ≤ 0) = False := eq_false (fun z => by
    rw [i32_le] at *
    have a : (1 : Int32).toInt = 1 := rfl
    have b : (0 : Int32).toInt = 0 := rfl
    omega)
  have h1 : (y = 0) = False := eq_false (fun z => by rw [z] at hy; exact absurd hy (by decide))
  simp only [in84, i84_0, i84_1, i84_4, i84_6, i84_7, i84_8, i84_9, i84_10, i84_11, i84_12, i84_13, i84_14, i84_17, i84_18, nl_i, nl_r, nl_0, nl_j, nb0, nb1, nbI, orv_s, konN_v, konN_n, konN_e, true_and, and_true, and_self, if_true, if_false, ite_true, ite_false, isR_ref, true_or, or_true, isR_null, rg10, rg11, rg12, rg13, rg14, rg15, rg16, rh13, rh14, rh15, rh16, bI_T, bI_F, bI_Fb, i1z, Bool.false_eq_true, h0, h1, show ((2 : Int32) = 0) = False from eq_false (by decide), not_false_eq_true]
  rfl
theorem s_isTh : EvM (d + 1) 82 [.int x] hh K = K (.inl (some (.int (bI (2 ≤ x ∧ x ≤ 19))))) hh := by
  simp only [in82, i82_0, i82_1, i82_2, i82_4, i82_7, nl_i, nl_r, nl_0, nl_j, nb0, nb1, nbI, orv_s, konN_v, konN_n, konN_e, true_and, and_true, and_self, if_true, if_false, ite_true, ite_false, isR_ref, true_or, or_true, isR_null, rg10, rg11, rg12, rg13, rg14, rg15, rg16, rh13, rh14, rh15, rh16, bI_T, bI_F, bI_Fb, i1z, Bool.false_eq_true, s_within]
def Sr (S : Nat → Nat → Int32) (nx kp : Nat) : Nat → Nat → Int32 := up2 (up2 (pS S (52 + 11 * nx) (S 28)) 50 1 (nI ((nx + 1) % 8))) 50 2 (nI (min (kp + 1) 8))
def Ar (A : Nat → Nat → Int32) (nx : Nat) : Nat → Nat → Int32 := pA A (52 + 11 * nx) (fun j => A (28 + j))
def Gr (G : Nat → Nat) (nx : Nat) : Nat → Nat := upf G (52 + 11 * nx) (G 28)
theorem pA_o {A a : Nat → Nat → Int32} {b i : Nat} (h : i ≤ b ∨ b + 10 < i) : pA A b a i = A i := if_neg (by omega)
theorem sr_o {i k : Nat} (h1 : ¬ i = 52 + 11 * nx) (h2 : ¬ i = 50) : Sr S nx kp i k = S i k := by
  unfold Sr
  rw [up2_ne (fun z => h2 z.1), up2_ne (fun z => h2 z.1), pS_ne h1]
theorem sr_b {i : Nat} (h1 : ¬ i = 52 + 11 * nx) (h2 : ¬ i = 50) : Sr S nx kp i = S i := funext fun k => sr_o h1 h2
theorem p_remember (hx : S 50 1 = nI nx) (hx8 : nx < 8) (hk : S 50 2 = nI kp) (hk8 : kp ≤ 8) : EvM (d + 2) 4 [.ref 50, .ref 28] (MH h T U S A J G) K =
    K (.inl none) (MH h T U (pS (Sr S nx kp) 28 (S 28)) (pA (Ar A nx) 28 (fun j => A (28 + j))) J (Gr G nx)) := by
  rw [s_remember hx hx8 hk hk8]
  have e1 : pS (Sr S nx kp) 28 (S 28) = Sr S nx kp := by
    have := sr_b (S := S) (kp := kp) (show ¬ 28 = 52 + 11 * nx by omega) (show ¬ 28 = 50 by decide)
    rw [← this]
    exact pS_id
  have e2 : pA (Ar A nx) 28 (fun j => A (28 + j)) = Ar A nx := by
    funext i
    unfold pA
    split
    · rename_i e
      show A (28 + (i - 28)) = Ar A nx i
      unfold Ar
      rw [pA_o (by omega), show 28 + (i - 28) = i by omega]
    · rfl
  rw [e1, e2]
  rfl
theorem p_exists (hs : SUp h T (G 28) t q sa m pg) : EvM d 7 [.ref 28] (MH h T U S A J G) K = K (.inl (some (.int (bI (0 < q 0))))) (MH h T U S A J G) := by
  have e := s_exists (d := d) (h := h) (T := T) (U := U) (S := S) (A := A) (J := J) (G := G) (K := K) (f := S 28) (a := fun j => A (28 + j)) hb28 hs
  rw [pS_id, pA_id] at e
  exact e
theorem s_rl0 (hs : SUp h T (G 28) t q sa m pg) (h0 : 0 < q 0) : EvM (d + 1) 78 [.ref 0] (MH h T U S A J G) K = K (.inl none) (MH h T U S A J G) := by
  simp only [in78, i78_0, i78_1, i78_4, i78_7, i78_10, i78_13, i78_14, i78_20, nl_i, nl_r, nl_0, nl_j, nb0, nb1, nbI, orv_s, konN_v, konN_n, konN_e, true_and, and_true, and_self, if_true, if_false, ite_true, ite_false, isR_ref, true_or, or_true, isR_null, rg10, rg11, rg12, rg13, rg14, rg15, rg16, rh13, rh14, rh15, rh16, bI_T, bI_F, bI_Fb, i1z, Bool.false_eq_true, k_0, f_0_1, k_l0 hb28, k_l1 hb28, k_l2 hb28, k_l3 hb28, k_l4 hb28, k_l5 hb28, k_l6 hb28, k_l7 hb28, k_l8 hb28, k_l9 hb28, k_l10 hb28, l_l1 hb28, l_l2 hb28, l_l3 hb28, l_l4 hb28, l_l5 hb28, l_l6 hb28, l_l7 hb28, l_l8 hb28, l_l9 hb28, l_l10 hb28, a_l1 hb28, a_l2 hb28, a_l3 hb28, a_l4 hb28, a_l5 hb28, a_l6 hb28, a_l7 hb28, a_l8 hb28, a_l9 hb28, a_l10 hb28, wa_l1 hb28, wa_l2 hb28, wa_l3 hb28, wa_l4 hb28, wa_l5 hb28, wa_l6 hb28, wa_l7 hb28, wa_l8 hb28, wa_l9 hb28, wa_l10 hb28, f_l0 hb28, f_l1 hb28, f_l2 hb28, f_l3 hb28, f_l4 hb28, f_l5 hb28, f_l6 hb28, f_l7 hb28, f_l8 hb28, f_l9 hb28, f_l10 hb28, f_l11 hb28, f_l12 hb28, f_l13 hb28, f_l14 hb28, w_l0 hb28, w_l1 hb28, w_l2 hb28, w_l3 hb28, w_l4 hb28, p_exists hs, bI_t h0, i1n0]
theorem s_rl1 (hs : SUp h T (G 28) t q sa m pg) (h0 : ¬ 0 < q 0) : EvM (d + 10) 78 [.ref 0] (MH h T U S A J G) K = K (.inr 1) (MH (alH h) T U S A J G) := by
  simp only [in78, i78_0, i78_1, i78_4, i78_7, i78_10, i78_13, i78_14, i78_20, nl_i, nl_r, nl_0, nl_j, nb0, nb1, nbI, orv_s, konN_v, konN_n, konN_e, true_and, and_true, and_self, if_true, if_false, ite_true, ite_false, isR_ref, true_or, or_true, isR_null, rg10, rg11, rg12, rg13, rg14, rg15, rg16, rh13, rh14, rh15, rh16, bI_T, bI_F, bI_Fb, i1z, Bool.false_eq_true, k_0, f_0_1, k_l0 hb28, k_l1 hb28, k_l2 hb28, k_l3 hb28, k_l4 hb28, k_l5 hb28, k_l6 hb28, k_l7 hb28, k_l8 hb28, k_l9 hb28, k_l10 hb28, l_l1 hb28, l_l2 hb28, l_l3 hb28, l_l4 hb28, l_l5 hb28, l_l6 hb28, l_l7 hb28, l_l8 hb28, l_l9 hb28, l_l10 hb28, a_l1 hb28, a_l2 hb28, a_l3 hb28, a_l4 hb28, a_l5 hb28, a_l6 hb28, a_l7 hb28, a_l8 hb28, a_l9 hb28, a_l10 hb28, wa_l1 hb28, wa_l2 hb28, wa_l3 hb28, wa_l4 hb28, wa_l5 hb28, wa_l6 hb28, wa_l7 hb28, wa_l8 hb28, wa_l9 hb28, wa_l10 hb28, f_l0 hb28, f_l1 hb28, f_l2 hb28, f_l3 hb28, f_l4 hb28, f_l5 hb28, f_l6 hb28, f_l7 hb28, f_l8 hb28, f_l9 hb28, f_l10 hb28, f_l11 hb28, f_l12 hb28, f_l13 hb28, f_l14 hb28, w_l0 hb28, w_l1 hb28, w_l2 hb28, w_l3 hb28, w_l4 hb28, p_exists hs, bI_f h0, mh_alH]
theorem mH_cH : mH c = cH c (c.2.2.2.1 13) (c.2.2.2.2.1 15) := by
  unfold mH cH
  rw [pS_id, upf_id]
theorem bC_cG (h156 : 140 ≤ hN c.1) (hT : ∀ i, hN c.1 ≤ i → c.2.1 i = false) : cG (bC c) (hN c.1) (hN c.1 + 9) 3 usual := by
  refine ⟨hB_SB h156 hT, hB_HT h156 hT, by omega, ?_, h156, (show upf c.2.2.2.2.2.2 13 (hN c.1) 13 = hN c.1 from upf_same _ _ _), fun i hi => ?_⟩
  · show hN c.1 + 9 + 3 ≤ hN (hB c.1)
    rw [hB_N]
    omega
  · have hi : hN (hB c.1) ≤ i := hi
    rw [hB_N] at hi
    show tAdd c.2.1 (hN c.1 + 11) i = false
    unfold tAdd
    rw [hT i (by omega), decide_eq_false (by omega)]
    rfl
end FC
