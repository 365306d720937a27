/-! SMALL METHODS -/
def bI (p : Prop) [Decidable p] : Int32 := if p then 1 else 0
theorem bI_t {p : Prop} [Decidable p] (h : p) : bI p = 1 := if_pos h
theorem bI_f {p : Prop} [Decidable p] (h : ¬ p) : bI p = 0 := if_neg h
theorem bI_0 {p : Prop} [Decidable p] : (bI p = 0) = ¬ p := by
  by_cases h : p
  · rw [bI_t h]; exact propext ⟨fun z => absurd z (by decide), fun z => absurd h z⟩
  · rw [bI_f h]; exact propext ⟨fun _ => h, fun _ => rfl⟩
theorem nl_i {x : Int32} : nl (some (.int x)) = some (.int x) := rfl
theorem nl_r {x : Nat} : nl (some (.ref x)) = some (.ref x) := rfl
theorem nl_0 : nl none = none := rfl
theorem nl_j {x : Int64} : nl (some (.long x)) = none := rfl
theorem rg10 : (10 ≤ 10 ∧ 10 ≤ 16) = True := by decide
theorem rg11 : (10 ≤ 11 ∧ 11 ≤ 16) = True := by decide
theorem rg12 : (10 ≤ 12 ∧ 12 ≤ 16) = True := by decide
theorem rg13 : (10 ≤ 13 ∧ 13 ≤ 16) = True := by decide
theorem rg14 : (10 ≤ 14 ∧ 14 ≤ 16) = True := by decide
theorem rg15 : (10 ≤ 15 ∧ 15 ≤ 16) = True := by decide
theorem rg16 : (10 ≤ 16 ∧ 16 ≤ 16) = True := by decide
theorem rh13 : (13 ≤ 13 ∧ 13 ≤ 16) = True := by decide
theorem rh14 : (13 ≤ 14 ∧ 14 ≤ 16) = True := by decide
theorem rh15 : (13 ≤ 15 ∧ 15 ≤ 16) = True := by decide
theorem rh16 : (13 ≤ 16 ∧ 16 ≤ 16) = True := by decide
theorem isR_null : (isR .null = true) = True := eq_true rfl
theorem nb0 : (narrow .boolean (.int 0) = .int 0) = True := eq_true rfl
theorem nb1 : (narrow .boolean (.int 1) = .int 1) = True := eq_true rfl
theorem nbI {p : Prop} [Decidable p] : (narrow .boolean (.int (bI p)) = .int (bI p)) = True := by
  by_cases h : p
  · rw [bI_t h]; exact nb1
  · rw [bI_f h]; exact nb0
theorem orv_s {a : Nat} : orv (some a) = .ref a := rfl
theorem isR_ref {a : Nat} : (isR (.ref a) = true) = True := eq_true rfl
section S1
variable {d : Nat} {hh : AH} {h : AH} {T : Nat → Bool} {U S A : Nat → Nat → Int32} {J : Nat → Nat → Int64} {G : Nat → Nat} {K : AO → AH → Prop} {b : Nat} {x y z : Int32}
theorem s_isSheet (hb : isLine b = true) : EvM d 8 [.ref b, .int x] (MH h T U S A J G) K = K (.inl (some (.int (bI (0 ≤ x ∧ x < S b 2))))) (MH h T U S A J G) := by
  simp only [in8, i8_0, i8_1, i8_4, i8_5, i8_6, i8_9, i8_12, i8_13, i8_16, i8_17, nl_i, nl_r, nl_0, nl_j, nb0, nb1, nbI, orv_s, konN_v, konN_n, konN_e, true_and, and_true, and_self, if_true, if_false, ite_true, ite_false, isR_ref, true_or, or_true, isR_null, rg10, rg11, rg12, rg13, rg14, rg15, rg16, rh13, rh14, rh15, rh16, k_l0 hb, k_l1 hb, k_l2 hb, k_l3 hb, k_l4 hb, k_l5 hb, k_l6 hb, k_l7 hb, k_l8 hb, k_l9 hb, k_l10 hb, l_l1 hb, l_l2 hb, l_l3 hb, l_l4 hb, l_l5 hb, l_l6 hb, l_l7 hb, l_l8 hb, l_l9 hb, l_l10 hb, a_l1 hb, a_l2 hb, a_l3 hb, a_l4 hb, a_l5 hb, a_l6 hb, a_l7 hb, a_l8 hb, a_l9 hb, a_l10 hb, wa_l1 hb, wa_l2 hb, wa_l3 hb, wa_l4 hb, wa_l5 hb, wa_l6 hb, wa_l7 hb, wa_l8 hb, wa_l9 hb, wa_l10 hb, f_l0 hb, f_l1 hb, f_l2 hb, f_l3 hb, f_l4 hb, f_l5 hb, f_l6 hb, f_l7 hb, f_l8 hb, f_l9 hb, f_l10 hb, f_l11 hb, f_l12 hb, f_l13 hb, f_l14 hb, w_l0 hb, w_l1 hb, w_l2 hb, w_l3 hb, w_l4 hb]
  by_cases h1 : x < 0
  · rw [if_pos h1, bI_f (fun q => absurd h1 (Int32.not_lt.mpr q.1))]
  · rw [if_neg h1]
    by_cases h2 : S b 2 ≤ x
    · rw [if_pos h2, bI_f (fun q => absurd h2 (Int32.not_le.mpr q.2))]
    · rw [if_neg h2, bI_t ⟨Int32.not_lt.mp h1, Int32.not_le.mp h2⟩]
theorem s_isWithin : EvM d 81 [.int x, .int y, .int z] hh K = K (.inl (some (.int (bI (y ≤ x ∧ x ≤ z))))) hh := by
  simp only [in81, i81_0, i81_1, i81_2, i81_5, i81_6, i81_7, i81_10, i81_11, i81_14, i81_15, nl_i, nl_r, nl_0, nl_j, nb0, nb1, nbI, orv_s, konN_v, konN_n, konN_e, true_and, and_true, and_self, if_true, if_false, ite_true, ite_false, isR_ref, true_or, or_true, isR_null, rg10, rg11, rg12, rg13, rg14, rg15, rg16, rh13, rh14, rh15, rh16]
  by_cases h1 : x < y
  · rw [if_pos h1, bI_f (fun q => absurd h1 (Int32.not_lt.mpr q.1))]
  · rw [if_neg h1]
    by_cases h2 : z < x
    · rw [if_pos h2, bI_f (fun q => absurd h2 (Int32.not_lt.mpr q.2))]
    · rw [if_neg h2, bI_t ⟨Int32.not_lt.mp h1, Int32.not_lt.mp h2⟩]
end S1
