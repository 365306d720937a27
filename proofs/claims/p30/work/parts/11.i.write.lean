/-! WRITE, WRITE NUMBERS, LOAD THE TEXT -/
section WRT
variable {d u n P k j m : Nat} {g : AH} {T : Nat → Bool} {U S A : Nat → Nat → Int32} {J : Nat → Nat → Int64} {G : Nat → Nat} {K : AO → AH → Prop} {l bs w : List Nat} {v : Value} {X : Nat → Prop} {l7 : Option Value}
theorem StrR.nl (x : StrR g X v bs) : nl (some v) = some v := by
  obtain ⟨x0, x1⟩ := x
  rcases x1 with ⟨k, k1, e, x1⟩ | ⟨i, b, e, x1⟩
  · rw [e]; exact nl_L
  · rw [e]; exact nl_r
theorem StrR.rv (x : StrR g X v bs) : (recv g 11 (some v) = true) = True := by
  obtain ⟨x0, x1⟩ := x
  rcases x1 with ⟨k, k1, e, x1⟩ | ⟨i, b, e, x3, x4, x5, x6⟩
  · rw [e]; exact recvL k1
  · rw [e]; exact recvR x5.1
theorem StrR.in (x : StrR g X v bs) {y z : Nat} : EvM d 121 [.ref y, .ref z, v] g K = Ev d 121 0 [some (.ref y), some (.ref z), some v, none] [] g K := by
  obtain ⟨x0, x1⟩ := x
  rcases x1 with ⟨k, k1, e, x1⟩ | ⟨i, b, e, x1⟩
  · rw [e]; exact in121
  · rw [e]; exact in121_r
theorem app_drop (h : k < bs.length) : l ++ [bs.getD k 0] ++ bs.drop (k + 1) = l ++ bs.drop k := by
  rw [List.drop_eq_getElem_cons h, List.append_assoc]
  congr 1
  rw [List.getD_eq_getElem?_getD, List.getElem?_eq_getElem h]
  rfl
theorem s_write_l : ∀ {m k : Nat} {g : AH} {S A : Nat → Nat → Int32} {l : List Nat}, bs.length = k + m → FX g T U S A J G → ¬ CW T u ∧ u < hN g → BUF g u S A l → StrR g X v bs → (∀ i, X i → ¬ (i = u ∨ own i = true)) → l.length + m ≤ 660 → ∃ g' S' A', FX g' T U S' A' J G ∧ BUF g' u S' A' (l ++ bs.drop k) ∧ WR u g g' S S' A A' ∧ ∀ d K, Ev (d + 4) 121 2 [some (.ref 0), some (.ref u), some v, some (.int (nI k))] [] g K = K (.inl none) g'
  | 0, k, g, S, A, l, hm, x, hu, hb, hs, hX, h6 => by
    refine ⟨g, S, A, x, ?_, WR.rf, fun d K => ?_⟩
    · rw [List.drop_eq_nil_of_le (by omega), List.append_nil]
      exact hb
    · have e : bs.length = k := by omega
      have := hs.1.2
      have c : (nI bs.length ≤ nI k) = True := eq_true (by rw [e]; exact Int32.le_refl _)
      have sl := fun K => s_slen (d := d + 2) (K := K) hs
      rw [i121_2]
      simp only [i121_3, i121_4, i121_7, i121_10, i121_11, i121_12, i121_13, i121_14, i121_17, i121_20, i121_23, i121_26, nl_i, nl_r, nl_0, nl_j, nb0, nb1, nbI, orv_s, konN_v, konN_n, konN_e, true_and, and_true, and_self, if_true, if_false, ite_true, ite_false, isR_ref, true_or, or_true, isR_null, rg10, rg11, rg12, rg13, rg14, rg15, rg16, rh13, rh14, rh15, rh16, bI_T, bI_F, bI_Fb, i1z, Bool.false_eq_true, hs.isR, hs.rv, sl, c]
  | m + 1, k, g, S, A, l, hm, x, hu, hb, hs, hX, h6 => by
    have hk : k < bs.length := by omega
    have h1 := hs.1.2
    have c : (nI bs.length ≤ nI k) = False := eq_false (fun y => by
      have := (nI_leI (a := bs.length) (b := k) (by omega) (by omega)).mp y
      omega)
    have sl := fun d K => s_slen (d := d + 2) (K := K) hs
    have sc := fun d K => s_schar (d := d) (K := K) hs hk
    obtain ⟨g1, S1, A1, x1, b1, w1, e1⟩ := s_put x hu hb (hs.1.1 k hk) (by omega)
    obtain ⟨g2, S2, A2, x2, b2, w2, e2⟩ := s_write_l (m := m) (k := k + 1) (g := g1) (S := S1) (A := A1) (l := l ++ [bs.getD k 0]) (by omega) x1 ⟨hu.1, Nat.lt_of_lt_of_le hu.2 w1.1.1.1⟩ b1 (hs.keep w1.1.1 hX) hX (by rw [List.length_append]; show l.length + 1 + m ≤ 660; omega)
    rw [app_drop hk] at b2
    refine ⟨g2, S2, A2, x2, b2, w1.tr w2, fun d K => ?_⟩
    have e1' := fun K => e1 d K
    have e2' := fun K => e2 d K
    rw [i121_2]
    simp only [i121_3, i121_4, i121_7, i121_10, i121_11, i121_12, i121_13, i121_14, i121_17, i121_20, i121_23, i121_26, nl_i, nl_r, nl_0, nl_j, nb0, nb1, nbI, orv_s, konN_v, konN_n, konN_e, true_and, and_true, and_self, if_true, if_false, ite_true, ite_false, isR_ref, true_or, or_true, isR_null, rg10, rg11, rg12, rg13, rg14, rg15, rg16, rh13, rh14, rh15, rh16, bI_T, bI_F, bI_Fb, i1z, Bool.false_eq_true, hs.isR, hs.rv, hs.nl, sl, sc, c, e1', nI_add, nI_1]
    exact e2' K
theorem s_write (x : FX g T U S A J G) (hu : ¬ CW T u ∧ u < hN g) (hb : BUF g u S A l) (hs : StrR g X v bs) (hX : ∀ i, X i → ¬ (i = u ∨ own i = true)) (h6 : l.length + bs.length ≤ 660) : ∃ g' S' A', FX g' T U S' A' J G ∧ BUF g' u S' A' (l ++ bs) ∧ WR u g g' S S' A A' ∧ ∀ d K, EvM (d + 4) 121 [.ref 0, .ref u, v] g K = K (.inl none) g' := by
  obtain ⟨g2, S2, A2, x2, b2, w2, e2⟩ := s_write_l (m := bs.length) (k := 0) (by omega) x hu hb hs hX h6
  refine ⟨g2, S2, A2, x2, b2, w2, fun d K => ?_⟩
  have e2' := fun K => e2 d K
  rw [nI_0] at e2'
  rw [hs.in]
  simp only [i121_0, i121_1, nl_i, nl_r, nl_0, nl_j, nb0, nb1, nbI, orv_s, konN_v, konN_n, konN_e, true_and, and_true, and_self, if_true, if_false, ite_true, ite_false, isR_ref, true_or, or_true, isR_null, rg10, rg11, rg12, rg13, rg14, rg15, rg16, rh13, rh14, rh15, rh16, bI_T, bI_F, bI_Fb, i1z, Bool.false_eq_true, hs.nl]
  exact e2' K
theorem s_dig (x : FX g T U S A J G) (hu : ¬ CW T u ∧ u < hN g) (hb : BUF g u S A l) (hn : n < 1000) (hP : P = 1 ∨ P = 10 ∨ P = 100) (h6 : l.length < 660) : ∃ g' S' A', FX g' T U S' A' J G ∧ BUF g' u S' A' (l ++ [48 + n / P % 10]) ∧ WR u g g' S S' A A' ∧ ∀ d K, Ev (d + 4) 122 18 [some (.ref 0), some (.ref u), some (.int (nI n)), some (.int (nI P))] [] g K = Ev (d + 4) 122 18 [some (.ref 0), some (.ref u), some (.int (nI n)), some (.int (nI (P / 10)))] [] g' K := by
  obtain ⟨g1, S1, A1, x1, b1, w1, e1⟩ := s_put (c := 48 + n / P % 10) x hu hb (by omega) h6
  refine ⟨g1, S1, A1, x1, b1, w1, fun d K => ?_⟩
  have e1' := fun K => e1 d K
  have q1 : nI n / nI P = nI (n / P) := dv_nI (by omega) (by omega) (by omega)
  have q2 : nI (n / P) - nI (n / P) / 10 * 10 = nI (n / P % 10) := rem_nI (m := 10) (Nat.lt_of_le_of_lt (Nat.div_le_self _ _) (by omega)) (by omega) (by omega)
  have q3 : (48 : Int32) + nI (n / P % 10) = nI (48 + n / P % 10) := nI_add 48 _
  have q4 : nI P / 10 = nI (P / 10) := dv_nI (m := 10) (by omega) (by omega) (by omega)
  have p0 : (nI P = 0) = False := nI_nz0 (by omega) (by omega)
  have p1 : (nI P ≤ 0) = False := eq_false (fun y => by
    have := (nI_leI (a := P) (b := 0) (by omega) (by omega)).mp y
    omega)
  have t0 : ((10 : Int32) = 0) = False := eq_false (by decide)
  rw [i122_18]
  simp only [i122_19, i122_22, i122_23, i122_24, i122_26, i122_27, i122_28, i122_29, i122_31, i122_32, i122_33, i122_36, i122_37, i122_39, i122_40, i122_41, i122_44, nl_i, nl_r, nl_0, nl_j, nb0, nb1, nbI, orv_s, konN_v, konN_n, konN_e, true_and, and_true, and_self, if_true, if_false, ite_true, ite_false, isR_ref, true_or, or_true, isR_null, rg10, rg11, rg12, rg13, rg14, rg15, rg16, rh13, rh14, rh15, rh16, bI_T, bI_F, bI_Fb, i1z, Bool.false_eq_true, q1, q2, q3, q4, p0, p1, t0, not_false_eq_true, e1']
theorem s_wnum (x : FX g T U S A J G) (hu : ¬ CW T u ∧ u < hN g) (hb : BUF g u S A l) (hn : n < 1000) (h6 : l.length + 3 ≤ 660) : ∃ g' S' A', FX g' T U S' A' J G ∧ BUF g' u S' A' (l ++ dgs n) ∧ WR u g g' S S' A A' ∧ ∀ d K, EvM (d + 4) 122 [.ref 0, .ref u, .int (nI n)] g K = K (.inl none) g' := by
  have t0 : ((10 : Int32) = 0) = False := eq_false (by decide)
  have q4 : nI n / 10 = nI (n / 10) := dv_nI (m := 10) (by omega) (by omega) (by omega)
  have lt' : ∀ a b : Nat, a < 65536 → b < 65536 → (nI a < nI b) = (a < b) := fun a b ha hb => by
    rw [i32_lt, nI_toInt (by omega), nI_toInt (by omega)]
    exact propext ⟨fun y => by omega, fun y => by omega⟩
  have fin : ∀ (g : AH) d K, Ev (d + 4) 122 18 [some (.ref 0), some (.ref u), some (.int (nI n)), some (.int (nI 0))] [] g K = K (.inl none) g := fun g d K => by
    have z : (nI 0 ≤ 0) = True := eq_true (by decide)
    rw [i122_18]
    simp only [i122_19, i122_22, i122_23, i122_24, i122_26, i122_27, i122_28, i122_29, i122_31, i122_32, i122_33, i122_36, i122_37, i122_39, i122_40, i122_41, i122_44, nl_i, nl_r, nl_0, nl_j, nb0, nb1, nbI, orv_s, konN_v, konN_n, konN_e, true_and, and_true, and_self, if_true, if_false, ite_true, ite_false, isR_ref, true_or, or_true, isR_null, rg10, rg11, rg12, rg13, rg14, rg15, rg16, rh13, rh14, rh15, rh16, bI_T, bI_F, bI_Fb, i1z, Bool.false_eq_true, z]
  have m1 : (1 : Int32) * 10 = nI 10 := rfl
  have m2 : nI 10 * 10 = nI 100 := rfl
  have j1 : (1 : Int32) = nI 1 := rfl
  by_cases h1 : n < 10
  · obtain ⟨g1, S1, A1, x1, b1, w1, e1⟩ := s_dig (P := 1) x hu hb hn (by omega) (by omega)
    refine ⟨g1, S1, A1, x1, ?_, w1, fun d K => ?_⟩
    · have e : dgs n = [48 + n / 1 % 10] := by
        unfold dgs
        rw [if_pos h1, Nat.div_one, Nat.mod_eq_of_lt h1]
      rw [e]; exact b1
    · have e1' := fun K => e1 d K
      have c : (nI (n / 10) < 1) = True := eq_true (by rw [j1, lt' _ _ (by omega) (by omega)]; omega)
      simp only [i122_0, i122_1, in122, nl_i, nl_r, nl_0, nl_j, nb0, nb1, nbI, orv_s, konN_v, konN_n, konN_e, true_and, and_true, and_self, if_true, if_false, ite_true, ite_false, isR_ref, true_or, or_true, isR_null, rg10, rg11, rg12, rg13, rg14, rg15, rg16, rh13, rh14, rh15, rh16, bI_T, bI_F, bI_Fb, i1z, Bool.false_eq_true]
      rw [i122_2]
      simp only [i122_3, i122_4, i122_6, i122_7, i122_10, i122_11, i122_13, i122_14, i122_15, nl_i, nl_r, nl_0, nl_j, nb0, nb1, nbI, orv_s, konN_v, konN_n, konN_e, true_and, and_true, and_self, if_true, if_false, ite_true, ite_false, isR_ref, true_or, or_true, isR_null, rg10, rg11, rg12, rg13, rg14, rg15, rg16, rh13, rh14, rh15, rh16, bI_T, bI_F, bI_Fb, i1z, Bool.false_eq_true, q4, t0, not_false_eq_true, c]
      refine (e1' K).trans (fin g1 d K)
  · by_cases h2 : n < 100
    · obtain ⟨g1, S1, A1, x1, b1, w1, e1⟩ := s_dig (P := 10) x hu hb hn (by omega) (by omega)
      obtain ⟨g2, S2, A2, x2, b2, w2, e2⟩ := s_dig (n := n) (P := 1) x1 ⟨hu.1, Nat.lt_of_lt_of_le hu.2 w1.1.1.1⟩ b1 hn (by omega) (by rw [List.length_append]; show l.length + 1 < 660; omega)
      refine ⟨g2, S2, A2, x2, ?_, w1.tr w2, fun d K => ?_⟩
      · have e : dgs n = [48 + n / 10 % 10] ++ [48 + n / 1 % 10] := by
          unfold dgs
          rw [if_neg h1, if_pos h2, Nat.div_one, Nat.mod_eq_of_lt (show n / 10 < 10 by omega)]
          rfl
        rw [e, ← List.append_assoc]; exact b2
      · have e1' := fun K => e1 d K
        have e2' := fun K => e2 d K
        have c : (nI (n / 10) < 1) = False := eq_false (by rw [j1, lt' _ _ (by omega) (by omega)]; omega)
        have c2 : (nI (n / 10) < nI 10) = True := eq_true (by rw [lt' _ _ (by omega) (by omega)]; omega)
        simp only [i122_0, i122_1, in122, nl_i, nl_r, nl_0, nl_j, nb0, nb1, nbI, orv_s, konN_v, konN_n, konN_e, true_and, and_true, and_self, if_true, if_false, ite_true, ite_false, isR_ref, true_or, or_true, isR_null, rg10, rg11, rg12, rg13, rg14, rg15, rg16, rh13, rh14, rh15, rh16, bI_T, bI_F, bI_Fb, i1z, Bool.false_eq_true]
        rw [i122_2]
        simp only [i122_3, i122_4, i122_6, i122_7, i122_10, i122_11, i122_13, i122_14, i122_15, nl_i, nl_r, nl_0, nl_j, nb0, nb1, nbI, orv_s, konN_v, konN_n, konN_e, true_and, and_true, and_self, if_true, if_false, ite_true, ite_false, isR_ref, true_or, or_true, isR_null, rg10, rg11, rg12, rg13, rg14, rg15, rg16, rh13, rh14, rh15, rh16, bI_T, bI_F, bI_Fb, i1z, Bool.false_eq_true, q4, t0, not_false_eq_true, c, m1]
        rw [i122_2]
        simp only [i122_3, i122_4, i122_6, i122_7, i122_10, i122_11, i122_13, i122_14, i122_15, nl_i, nl_r, nl_0, nl_j, nb0, nb1, nbI, orv_s, konN_v, konN_n, konN_e, true_and, and_true, and_self, if_true, if_false, ite_true, ite_false, isR_ref, true_or, or_true, isR_null, rg10, rg11, rg12, rg13, rg14, rg15, rg16, rh13, rh14, rh15, rh16, bI_T, bI_F, bI_Fb, i1z, Bool.false_eq_true, q4, t0, not_false_eq_true, c2]
        refine (e1' K).trans ((e2' K).trans (fin g2 d K))
    · obtain ⟨g1, S1, A1, x1, b1, w1, e1⟩ := s_dig (P := 100) x hu hb hn (by omega) (by omega)
      obtain ⟨g2, S2, A2, x2, b2, w2, e2⟩ := s_dig (n := n) (P := 10) x1 ⟨hu.1, Nat.lt_of_lt_of_le hu.2 w1.1.1.1⟩ b1 hn (by omega) (by rw [List.length_append]; show l.length + 1 < 660; omega)
      obtain ⟨g3, S3, A3, x3, b3, w3, e3⟩ := s_dig (n := n) (P := 1) x2 ⟨hu.1, Nat.lt_of_lt_of_le hu.2 (w1.tr w2).1.1.1⟩ b2 hn (by omega) (by rw [List.length_append, List.length_append]; show l.length + 1 + 1 < 660; omega)
      refine ⟨g3, S3, A3, x3, ?_, (w1.tr w2).tr w3, fun d K => ?_⟩
      · have e : dgs n = [48 + n / 100 % 10] ++ [48 + n / 10 % 10] ++ [48 + n / 1 % 10] := by
          unfold dgs
          rw [if_neg h1, if_neg h2, Nat.div_one, Nat.mod_eq_of_lt (show n / 100 < 10 by omega)]
          rfl
        rw [e, ← List.append_assoc, ← List.append_assoc]; exact b3
      · have e1' := fun K => e1 d K
        have e2' := fun K => e2 d K
        have e3' := fun K => e3 d K
        have c : (nI (n / 10) < 1) = False := eq_false (by rw [j1, lt' _ _ (by omega) (by omega)]; omega)
        have c2 : (nI (n / 10) < nI 10) = False := eq_false (by rw [lt' _ _ (by omega) (by omega)]; omega)
        have c3 : (nI (n / 10) < nI 100) = True := eq_true (by rw [lt' _ _ (by omega) (by omega)]; omega)
        simp only [i122_0, i122_1, in122, nl_i, nl_r, nl_0, nl_j, nb0, nb1, nbI, orv_s, konN_v, konN_n, konN_e, true_and, and_true, and_self, if_true, if_false, ite_true, ite_false, isR_ref, true_or, or_true, isR_null, rg10, rg11, rg12, rg13, rg14, rg15, rg16, rh13, rh14, rh15, rh16, bI_T, bI_F, bI_Fb, i1z, Bool.false_eq_true]
        rw [i122_2]
        simp only [i122_3, i122_4, i122_6, i122_7, i122_10, i122_11, i122_13, i122_14, i122_15, nl_i, nl_r, nl_0, nl_j, nb0, nb1, nbI, orv_s, konN_v, konN_n, konN_e, true_and, and_true, and_self, if_true, if_false, ite_true, ite_false, isR_ref, true_or, or_true, isR_null, rg10, rg11, rg12, rg13, rg14, rg15, rg16, rh13, rh14, rh15, rh16, bI_T, bI_F, bI_Fb, i1z, Bool.false_eq_true, q4, t0, not_false_eq_true, c, m1]
        rw [i122_2]
        simp only [i122_3, i122_4, i122_6, i122_7, i122_10, i122_11, i122_13, i122_14, i122_15, nl_i, nl_r, nl_0, nl_j, nb0, nb1, nbI, orv_s, konN_v, konN_n, konN_e, true_and, and_true, and_self, if_true, if_false, ite_true, ite_false, isR_ref, true_or, or_true, isR_null, rg10, rg11, rg12, rg13, rg14, rg15, rg16, rh13, rh14, rh15, rh16, bI_T, bI_F, bI_Fb, i1z, Bool.false_eq_true, q4, t0, not_false_eq_true, c2, m2]
        rw [i122_2]
        simp only [i122_3, i122_4, i122_6, i122_7, i122_10, i122_11, i122_13, i122_14, i122_15, nl_i, nl_r, nl_0, nl_j, nb0, nb1, nbI, orv_s, konN_v, konN_n, konN_e, true_and, and_true, and_self, if_true, if_false, ite_true, ite_false, isR_ref, true_or, or_true, isR_null, rg10, rg11, rg12, rg13, rg14, rg15, rg16, rh13, rh14, rh15, rh16, bI_T, bI_F, bI_Fb, i1z, Bool.false_eq_true, q4, t0, not_false_eq_true, c3]
        refine (e1' K).trans ((e2' K).trans ((e3' K).trans (fin g3 d K)))
theorem lit6 : StrR g (fun _ => False) (litV 6) [32] := lit_str (by decide) (by decide) (by decide) (by decide) (by decide)
theorem lit7 : StrR g (fun _ => False) (litV 7) [59] := lit_str (by decide) (by decide) (by decide) (by decide) (by decide)
end WRT
