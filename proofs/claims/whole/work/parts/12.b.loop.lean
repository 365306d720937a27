/-! THE LAW: its loop -/
section LL
variable {L B1 B2 d : Nat} {xs : Nat → Int32}
theorem law_next {c : HP} {i m pc : Nat} {Q : AO → AH → Prop} {l5 l6 : Option Value} (hc : LC L xs i pc c) (hX1 : hX c.1 = (L, xs)) (b1 : hN c.1 + 16 * (m + 1) ≤ B1) (b2 : hS c.1 + 1000 * (m + 1) ≤ B2)
    (ih : ∀ (c' : HP) (l5 l6 : Option Value), GRc c' → hX c'.1 = (L, xs) → hN c'.1 + 16 * m ≤ B1 → hS c'.1 + 1000 * m ≤ B2 → Ev (d + 41) 182 23 [some scrV, some (.ref 0), some (.ref 140), some (.ref 155), some (.int (nI (i + 6))), l5, l6] [] (mH c') Q) :
    Ev (d + 41) 182 pc [some scrV, some (.ref 0), some (.ref 140), some (.ref 155), some (.int (nI i)), l5, l6] [] (mH c) Q := by
  obtain ⟨c', ⟨g1, g2, g3, g4, g5⟩, r⟩ := hc
  obtain ⟨l5', l6', e⟩ := r d Q l5 l6
  rw [e]
  simp only [i182_1391, i182_1394, nl_i, nl_r, nI_p6]
  exact ih c' l5' l6' g1 (g5.trans hX1) (by omega) (by omega)
theorem len_lt {i L : Nat} (hL : L < 2 ^ 30) (hi : i < 2 ^ 30) : (nI L - 6 < nI i) = (L < i + 6) := by
  have a : (nI L).toInt = L := nI_toInt (by omega)
  have b : (nI i).toInt = i := nI_toInt (by omega)
  have c6 : (6 : Int32).toInt = 6 := rfl
  have e : (nI L - 6).toInt = (L : Int) - 6 := by rw [i32_sub (by omega) (by omega), a, c6]
  rw [i32_lt, e, b]
  exact propext ⟨fun h => by omega, fun h => by omega⟩
theorem law_loop (hL : L < 2 ^ 29) : ∀ (m i : Nat) (c : HP) (l5 l6 : Option Value), GRc c → hX c.1 = (L, xs) → i ≤ L + 6 → L < i + 6 + 6 * m → hN c.1 + 16 * m ≤ B1 → hS c.1 + 1000 * m ≤ B2 →
    Ev (d + 41) 182 23 [some scrV, some (.ref 0), some (.ref 140), some (.ref 155), some (.int (nI i)), l5, l6] [] (mH c) (fun o y => o = .inl (some (.int 1)) ∧ hN y ≤ B1 ∧ hS y ≤ B2) := by
  intro m
  induction m with
  | zero =>
    intro i c l5 l6 hG hX1 hiL hi b1 b2
    have p1 : (hX (mH c)).1 = L := (congrArg Prod.fst hX1 : _)
    rw [i182_23]
    simp only [i182_25, i182_26, i182_27, i182_29, i182_30, i182_1397, i182_1398, nl_i, nl_r, nl_0, nl_j, nb0, nb1, nbI, orv_s, konN_v, konN_n, konN_e, true_and, and_true, and_self, if_true, if_false, ite_true, ite_false, isR_ref, true_or, or_true, bI_T, bI_F, bI_Fb, i1z, Bool.false_eq_true, isR_s, p1, len_lt (show L < 2 ^ 30 by omega) (show i < 2 ^ 30 by omega), show L < i + 6 by omega]
    have b1' : hN (mH c) ≤ B1 := b1
    have b2' : hS (mH c) ≤ B2 := b2
    exact ⟨b1', b2'⟩
  | succ m ih =>
    intro i c l5 l6 hG hX1 hiL hi b1 b2
    have p1 : (hX (mH c)).1 = L := (congrArg Prod.fst hX1 : _)
    have p2 : (hX (mH c)).2 = xs := (congrArg Prod.snd hX1 : _)
    rw [i182_23]
    by_cases hc : L < i + 6
    · simp only [i182_25, i182_26, i182_27, i182_29, i182_30, i182_1397, i182_1398, nl_i, nl_r, nl_0, nl_j, nb0, nb1, nbI, orv_s, konN_v, konN_n, konN_e, true_and, and_true, and_self, if_true, if_false, ite_true, ite_false, isR_ref, true_or, or_true, bI_T, bI_F, bI_Fb, i1z, Bool.false_eq_true, isR_s, p1, len_lt (show L < 2 ^ 30 by omega) (show i < 2 ^ 30 by omega), hc]
      have b1' : hN (mH c) ≤ B1 := Nat.le_trans (Nat.le_add_right _ _) b1
      have b2' : hS (mH c) ≤ B2 := Nat.le_trans (Nat.le_add_right _ _) b2
      exact ⟨b1', b2'⟩
    · simp only [i182_25, i182_26, i182_27, i182_29, i182_30, i182_33, i182_34, i182_36, i182_37, i182_39, nl_i, nl_r, nl_0, nl_j, nb0, nb1, nbI, orv_s, konN_v, konN_n, konN_e, true_and, and_true, and_self, if_true, if_false, ite_true, ite_false, isR_ref, true_or, or_true, bI_T, bI_F, bI_Fb, i1z, Bool.false_eq_true, isR_s, p1, p2, len_lt (show L < 2 ^ 30 by omega) (show i < 2 ^ 30 by omega), hc, inbT (show i < L by omega) (show L < 2 ^ 31 by omega), zn_nI (show i < 2 ^ 31 by omega)]
      have hi6 : i + 6 ≤ L := by omega
      have hL31 : L < 2 ^ 31 := by omega
      have ih' : ∀ (c' : HP) (l5 l6 : Option Value), GRc c' → hX c'.1 = (L, xs) → hN c'.1 + 16 * m ≤ B1 → hS c'.1 + 1000 * m ≤ B2 → Ev (d + 41) 182 23 [some scrV, some (.ref 0), some (.ref 140), some (.ref 155), some (.int (nI (i + 6))), l5, l6] [] (mH c') (fun o y => o = .inl (some (.int 1)) ∧ hN y ≤ B1 ∧ hS y ≤ B2) := fun c' l5 l6 g x y z => ih (i + 6) c' l5 l6 g x (by omega) (by omega) y z
      generalize xs i &&& 31 = w
      by_cases hw : w.toInt < 0 ∨ 26 < w.toInt
      · rw [i182_40_d hw]
        exact law_next ⟨c, ⟨hG, Nat.le_refl _, Nat.le_add_right _ _, Nat.le_add_right _ _, rfl⟩, fun d Q l5 l6 => ⟨l5, l6, rfl⟩⟩ hX1 b1 b2 ih'
      · have hw0 : 0 ≤ w.toInt ∧ w.toInt ≤ 26 := by omega
        clear hw
        have hk : w.toInt = 0 ∨ w.toInt = 1 ∨ w.toInt = 2 ∨ w.toInt = 3 ∨ w.toInt = 4 ∨ w.toInt = 5 ∨ w.toInt = 6 ∨ w.toInt = 7 ∨ w.toInt = 8 ∨ w.toInt = 9 ∨ w.toInt = 10 ∨ w.toInt = 11 ∨ w.toInt = 12 ∨ w.toInt = 13 ∨ w.toInt = 14 ∨ w.toInt = 15 ∨ w.toInt = 16 ∨ w.toInt = 17 ∨ w.toInt = 18 ∨ w.toInt = 19 ∨ w.toInt = 20 ∨ w.toInt = 21 ∨ w.toInt = 22 ∨ w.toInt = 23 ∨ w.toInt = 24 ∨ w.toInt = 25 ∨ w.toInt = 26 := by omega
        rcases hk with e | e | e | e | e | e | e | e | e | e | e | e | e | e | e | e | e | e | e | e | e | e | e | e | e | e | e
        · have e' : w = 0 := Int32.toInt_inj.mp e
          rw [e', i182_40_0]
          exact law_next (lc_0 hG hX1 hi6 hL31) hX1 b1 b2 ih'
        · have e' : w = 1 := Int32.toInt_inj.mp e
          rw [e', i182_40_1]
          exact law_next (lc_1 hG hX1 hi6 hL31) hX1 b1 b2 ih'
        · have e' : w = 2 := Int32.toInt_inj.mp e
          rw [e', i182_40_2]
          exact law_next (lc_2 hG hX1 hi6 hL31) hX1 b1 b2 ih'
        · have e' : w = 3 := Int32.toInt_inj.mp e
          rw [e', i182_40_3]
          exact law_next (lc_3 hG hX1 hi6 hL31) hX1 b1 b2 ih'
        · have e' : w = 4 := Int32.toInt_inj.mp e
          rw [e', i182_40_4]
          exact law_next (lc_4 hG hX1 hi6 hL31) hX1 b1 b2 ih'
        · have e' : w = 5 := Int32.toInt_inj.mp e
          rw [e', i182_40_5]
          exact law_next (lc_5 hG hX1 hi6 hL31) hX1 b1 b2 ih'
        · have e' : w = 6 := Int32.toInt_inj.mp e
          rw [e', i182_40_6]
          exact law_next (lc_6 hG hX1 hi6 hL31) hX1 b1 b2 ih'
        · have e' : w = 7 := Int32.toInt_inj.mp e
          rw [e', i182_40_7]
          exact law_next (lc_7 hG hX1 hi6 hL31) hX1 b1 b2 ih'
        · have e' : w = 8 := Int32.toInt_inj.mp e
          rw [e', i182_40_8]
          exact law_next (lc_8 hG hX1 hi6 hL31) hX1 b1 b2 ih'
        · have e' : w = 9 := Int32.toInt_inj.mp e
          rw [e', i182_40_9]
          exact law_next (lc_9 hG hX1 hi6 hL31) hX1 b1 b2 ih'
        · have e' : w = 10 := Int32.toInt_inj.mp e
          rw [e', i182_40_10]
          exact law_next (lc_10 hG hX1 hi6 hL31) hX1 b1 b2 ih'
        · have e' : w = 11 := Int32.toInt_inj.mp e
          rw [e', i182_40_11]
          exact law_next (lc_11 hG hX1 hi6 hL31) hX1 b1 b2 ih'
        · have e' : w = 12 := Int32.toInt_inj.mp e
          rw [e', i182_40_12]
          exact law_next (lc_12 hG hX1 hi6 hL31) hX1 b1 b2 ih'
        · have e' : w = 13 := Int32.toInt_inj.mp e
          rw [e', i182_40_13]
          exact law_next (lc_13 hG hX1 hi6 hL31) hX1 b1 b2 ih'
        · have e' : w = 14 := Int32.toInt_inj.mp e
          rw [e', i182_40_14]
          exact law_next (lc_14 hG hX1 hi6 hL31) hX1 b1 b2 ih'
        · have e' : w = 15 := Int32.toInt_inj.mp e
          rw [e', i182_40_15]
          exact law_next (lc_15 hG hX1 hi6 hL31) hX1 b1 b2 ih'
        · have e' : w = 16 := Int32.toInt_inj.mp e
          rw [e', i182_40_16]
          exact law_next (lc_16 hG hX1 hi6 hL31) hX1 b1 b2 ih'
        · have e' : w = 17 := Int32.toInt_inj.mp e
          rw [e', i182_40_17]
          exact law_next (lc_17 hG hX1 hi6 hL31) hX1 b1 b2 ih'
        · have e' : w = 18 := Int32.toInt_inj.mp e
          rw [e', i182_40_18]
          exact law_next (lc_18 hG hX1 hi6 hL31) hX1 b1 b2 ih'
        · have e' : w = 19 := Int32.toInt_inj.mp e
          rw [e', i182_40_19]
          exact law_next (lc_19 hG hX1 hi6 hL31) hX1 b1 b2 ih'
        · have e' : w = 20 := Int32.toInt_inj.mp e
          rw [e', i182_40_20]
          exact law_next (lc_20 hG hX1 hi6 hL31) hX1 b1 b2 ih'
        · have e' : w = 21 := Int32.toInt_inj.mp e
          rw [e', i182_40_21]
          exact law_next (lc_21 hG hX1 hi6 hL31) hX1 b1 b2 ih'
        · have e' : w = 22 := Int32.toInt_inj.mp e
          rw [e', i182_40_22]
          exact law_next (lc_22 hG hX1 hi6 hL31) hX1 b1 b2 ih'
        · have e' : w = 23 := Int32.toInt_inj.mp e
          rw [e', i182_40_23]
          exact law_next (lc_23 hG hX1 hi6 hL31) hX1 b1 b2 ih'
        · have e' : w = 24 := Int32.toInt_inj.mp e
          rw [e', i182_40_24]
          exact law_next (lc_24 hG hX1 hi6 hL31) hX1 b1 b2 ih'
        · have e' : w = 25 := Int32.toInt_inj.mp e
          rw [e', i182_40_25]
          exact law_next (lc_25 hG hX1 hi6 hL31) hX1 b1 b2 ih'
        · have e' : w = 26 := Int32.toInt_inj.mp e
          rw [e', i182_40_26]
          exact law_next (lc_26 hG hX1 hi6 hL31) hX1 b1 b2 ih'
end LL
