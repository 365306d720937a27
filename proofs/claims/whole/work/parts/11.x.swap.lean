/-! FACE: load, the reference begins; the same heap in two descriptions -/
section SW
variable {h h1 h2 : AH} {T T1 T2 : Nat → Bool} {U U1 U2 S S' S1 S1' S2 S2' A A1 A1' A2 A2' : Nat → Nat → Int32} {J J' : Nat → Nat → Int64} {G G' G1 G2 : Nat → Nat} {d n k fl : Nat} {D : Nat → Int32} {K : AO → AH → Prop} {w : Int32}
theorem o140 (hh : ∀ k, (k = 0 ∨ k = 2 ∨ k = 3 ∨ k = 4 ∨ k = 5 ∨ k = 6 ∨ k = 7 ∨ k = 12 ∨ k = 13 ∨ k = 14) → S 140 k = S' 140 k) (k : Nat) : oF1 S G 140 k = oF1 S' G' 140 k := by
  by_cases hk : k < 16
  · rcases (show k = 0 ∨ k = 1 ∨ k = 2 ∨ k = 3 ∨ k = 4 ∨ k = 5 ∨ k = 6 ∨ k = 7 ∨ k = 8 ∨ k = 9 ∨ k = 10 ∨ k = 11 ∨ k = 12 ∨ k = 13 ∨ k = 14 ∨ k = 15 by omega) with e | e | e | e | e | e | e | e | e | e | e | e | e | e | e | e <;> subst e
    · exact congrArg Value.int (hh 0 (by omega))
    · rfl
    · exact congrArg Value.int (hh 2 (by omega))
    · exact congrArg Value.int (hh 3 (by omega))
    · exact congrArg Value.int (hh 4 (by omega))
    · exact congrArg Value.int (hh 5 (by omega))
    · exact congrArg Value.int (hh 6 (by omega))
    · exact congrArg Value.int (hh 7 (by omega))
    · rfl
    · rfl
    · rfl
    · rfl
    · exact congrArg Value.int (hh 12 (by omega))
    · exact congrArg Value.int (hh 13 (by omega))
    · exact congrArg Value.int (hh 14 (by omega))
    · rfl
  · obtain ⟨j, rfl⟩ : ∃ j, k = j + 16 := ⟨k - 16, by omega⟩
    show (if j + 16 < 15 then Value.int (S 140 (j + 16)) else .null) = (if j + 16 < 15 then Value.int (S' 140 (j + 16)) else .null)
    rw [if_neg (by omega), if_neg (by omega)]
theorem oF_cg {i : Nat} (hS : S i = S' i) (hG : G i = G' i) (k : Nat) : oF1 S G i k = oF1 S' G' i k := by
  unfold oF1 lnF
  by_cases h13 : i = 13
  · subst h13
    rw [if_neg (by decide), if_pos rfl, if_neg (by decide), if_pos rfl, hS, hG]
  · by_cases h50 : i = 50
    · subst h50
      rw [if_neg (by decide), if_neg (by decide), if_pos rfl, if_neg (by decide), if_neg (by decide), if_pos rfl, hS]
    · by_cases h140 : i = 140
      · subst h140
        rw [if_neg (by decide), if_neg (by decide), if_neg (by decide), if_pos rfl, if_neg (by decide), if_neg (by decide), if_neg (by decide), if_pos rfl, hS]
      · simp only [h13, h50, h140, if_false, hS, hG]
theorem mh_sw (E : MH h1 T1 U1 S1 A1 J G1 = MH h2 T2 U2 S2 A2 J G2) (hS1 : ∀ i, ¬ i = 140 → S1' i = S1 i) (hS2 : ∀ i, ¬ i = 140 → S2' i = S2 i) (h140 : S1' 140 = S2' 140) (hG : G1 140 = G2 140)
    (hA1 : ∀ i, i < 140 → A1' i = A1 i) (hA2 : ∀ i, i < 140 → A2' i = A2 i) (hA : ∀ i, ¬ i < 140 → A1' i = A2' i) : MH h1 T1 U1 S1' A1' J' G1 = MH h2 T2 U2 S2' A2' J' G2 := by
  refine ah_ext (congrArg (fun x => x.1) E) (congrArg (fun x => x.2.1) E) (fun i => congrFun (congrArg (fun x => x.2.2.1) E) i) (fun i k => ?_) (fun i => ?_) (fun i => ?_) (fun i => congrFun (congrArg (fun x => x.2.2.2.2.2.2.1) E) i) (congrArg (fun x => x.2.2.2.2.2.2.2) E)
  · have e : (if own i = true then oF1 S1 G1 i k else h1.2.2.2.1 i k) = (if own i = true then oF1 S2 G2 i k else h2.2.2.2.1 i k) := congrFun (congrFun (congrArg (fun x => x.2.2.2.1) E) i) k
    show (if own i = true then oF1 S1' G1 i k else h1.2.2.2.1 i k) = (if own i = true then oF1 S2' G2 i k else h2.2.2.2.1 i k)
    by_cases o : own i = true
    · rw [if_pos o, if_pos o] at e ⊢
      by_cases i140 : i = 140
      · subst i140
        exact oF_cg h140 hG k
      · rw [oF_cg (hS1 i i140) rfl k, e, oF_cg (hS2 i i140).symm rfl k]
    · rw [if_neg o, if_neg o] at e ⊢
      exact e
  · have e : (if own i = true then A1 i else if T1 i = true then U1 i else h1.2.2.2.2.1 i) = (if own i = true then A2 i else if T2 i = true then U2 i else h2.2.2.2.2.1 i) := congrFun (congrArg (fun x => x.2.2.2.2.1) E) i
    show (if own i = true then A1' i else if T1 i = true then U1 i else h1.2.2.2.2.1 i) = (if own i = true then A2' i else if T2 i = true then U2 i else h2.2.2.2.2.1 i)
    by_cases o : own i = true
    · rw [if_pos o, if_pos o] at e ⊢
      by_cases i140 : i < 140
      · rw [hA1 i i140, hA2 i i140, e]
      · exact hA i i140
    · rw [if_neg o, if_neg o] at e ⊢
      exact e
  · have e : (if own i = true then J i else h1.2.2.2.2.2.1 i) = (if own i = true then J i else h2.2.2.2.2.2.1 i) := congrFun (congrArg (fun x => x.2.2.2.2.2.1) E) i
    show (if own i = true then J' i else h1.2.2.2.2.2.1 i) = (if own i = true then J' i else h2.2.2.2.2.2.1 i)
    by_cases o : own i = true
    · rw [if_pos o, if_pos o]
    · rw [if_neg o, if_neg o] at e ⊢
      exact e
theorem lz_loop : ∀ m k (D : Nat → Int32), k + m = 1451 → Ev (d + 1) 114 69 [some (.ref 140), some (.int w), some (.int (nI k))] [] (MH h T U S (upf A 143 D) J G) K = Ev (d + 1) 114 89 [some (.ref 140), some (.int w), some (.int (nI 1451))] [] (MH h T U S (upf A 143 (fun i => if k ≤ i ∧ i < 1451 then 0 else D i)) J G) K
  | 0, k, D, hk => by
    obtain rfl : k = 1451 := by omega
    rw [i114_69]
    have e : (fun i => if 1451 ≤ i ∧ i < 1451 then (0 : Int32) else D i) = D := by
      funext i
      rw [if_neg (by omega)]
    rw [e]
    simp only [i114_70, i114_73, i114_76, i114_77, i114_80, i114_81, i114_82, i114_83, i114_86, nl_i, nl_r, nl_0, nl_j, nb0, nb1, nbI, orv_s, konN_v, konN_n, konN_e, true_and, and_true, and_self, if_true, if_false, ite_true, ite_false, isR_ref, true_or, or_true, bI_T, bI_F, bI_Fb, i1z, Bool.false_eq_true, show ((1451 : Int32) ≤ nI 1451) = True from eq_true (by decide)]
  | m + 1, k, D, hk => by
    have ih := lz_loop m (k + 1) (upd D k 0) (by omega)
    rw [i114_69]
    simp only [i114_70, i114_73, i114_76, i114_77, i114_80, i114_81, i114_82, i114_83, i114_86, nl_i, nl_r, nl_0, nl_j, nb0, nb1, nbI, orv_s, konN_v, konN_n, konN_e, true_and, and_true, and_self, if_true, if_false, ite_true, ite_false, isR_ref, true_or, or_true, bI_T, bI_F, bI_Fb, i1z, Bool.false_eq_true, k_140, f_140_1, f_140_8, f_140_9, f_140_10, f_140_11, f_140_15, f_140_0, f_140_2, f_140_3, f_140_4, f_140_5, f_140_6, f_140_7, f_140_12, f_140_13, f_140_14, w_140_0, w_140_2, w_140_3, w_140_4, w_140_5, w_140_6, w_140_7, w_140_12, w_140_13, w_140_14, k_141, l_141, a_141, wa_141, k_142, l_142, a_142, wa_142, k_143, l_143, a_143, wa_143, k_144, l_144, a_144, wa_144, pS_b, pS_up, mh_N, mh_S, mh_X, mh_alH, nI_le_zn (show k < 2 ^ 31 by omega), zn_1451, show k < 1451 by omega, not_true, upf_same, upf_upf, inbT (show k < 1451 by omega) (show 1451 < 2 ^ 31 by omega), zn_nI (show k < 2 ^ 31 by omega), nI_1, ih]
    have e : (fun i => if k + 1 ≤ i ∧ i < 1451 then (0 : Int32) else upd D k 0 i) = fun i => if k ≤ i ∧ i < 1451 then 0 else D i := by
      funext i
      by_cases ei : i = k
      · subst ei
        rw [if_neg (by omega), if_pos (by omega), upd_eq]
      · rw [upd_nz ei]
        by_cases e2 : k + 1 ≤ i ∧ i < 1451
        · rw [if_pos e2, if_pos (by omega)]
        · rw [if_neg e2, if_neg (by omega)]
    rw [e]
/-- the reference's load up to the header -/
theorem ld_ref (hn : n ≤ fl) (hfl : fl ≤ 700) (h2 : S 140 2 = nI fl) : EvM (d + 25) 114 [.ref 140, .int (nI n)] (MH h T U S A J G) K = Ev (d + 25) 114 89 [some (.ref 140), some (.int (nI n)), some (.int (nI 1451))] [] (rH (h, T, U, S, A, J, G) (rm n 0 0 (S 140 7) (S 140 12) 0) (fun i => if 0 ≤ i ∧ i < 1451 then 0 else A 143 i)) K := by
  have hx : 0 ≤ nI n ∧ nI n ≤ nI fl := ⟨nI_nn (by omega), (nI_leI (a := n) (b := fl) (by omega) (by omega)).mpr hn⟩
  have lz := fun S => lz_loop (d := d + 24) (h := h) (T := T) (U := U) (S := S) (A := A) (J := J) (G := G) (K := K) (w := nI n) 1451 0 (A 143) (by omega)
  simp only [upf_id, nI_0] at lz
  simp only [i114_0, i114_1, i114_2, i114_5, i114_6, i114_7, i114_8, i114_9, i114_12, i114_15, i114_18, i114_19, i114_22, i114_23, i114_24, i114_27, i114_30, i114_31, i114_32, i114_33, i114_34, i114_37, i114_38, i114_39, i114_42, i114_43, i114_44, i114_47, i114_48, i114_49, i114_52, i114_53, i114_54, i114_57, i114_58, i114_59, i114_62, i114_63, i114_64, i114_67, i114_68, in114, nl_i, nl_r, nl_0, nl_j, nb0, nb1, nbI, orv_s, konN_v, konN_n, konN_e, true_and, and_true, and_self, if_true, if_false, ite_true, ite_false, isR_ref, true_or, or_true, bI_T, bI_F, bI_Fb, i1z, Bool.false_eq_true, k_140, f_140_1, f_140_8, f_140_9, f_140_10, f_140_11, f_140_15, f_140_0, f_140_2, f_140_3, f_140_4, f_140_5, f_140_6, f_140_7, f_140_12, f_140_13, f_140_14, w_140_0, w_140_2, w_140_3, w_140_4, w_140_5, w_140_6, w_140_7, w_140_12, w_140_13, w_140_14, k_141, l_141, a_141, wa_141, k_142, l_142, a_142, wa_142, k_143, l_143, a_143, wa_143, k_144, l_144, a_144, wa_144, pS_b, pS_up, mh_N, mh_S, mh_X, mh_alH, up2_ne (show ¬ (140 = 140 ∧ 2 = 0) by decide), h2, s_in0 hx, i1n0, s_fl0, lz]
  have e : ∀ S' : Nat → Nat → Int32, (∀ i, ¬ i = 140 → S' i = S i) → (∀ k, (k = 0 ∨ k = 2 ∨ k = 3 ∨ k = 4 ∨ k = 5 ∨ k = 6 ∨ k = 7 ∨ k = 12 ∨ k = 13 ∨ k = 14) → S' 140 k = rm n 0 0 (S 140 7) (S 140 12) 0 k) → MH h T U S' (upf A 143 (fun i => if 0 ≤ i ∧ i < 1451 then 0 else A 143 i)) J G = rH (h, T, U, S, A, J, G) (rm n 0 0 (S 140 7) (S 140 12) 0) (fun i => if 0 ≤ i ∧ i < 1451 then 0 else A 143 i) := fun S' hs hk => by
    refine mh_congr (fun i k => ?_) (fun _ => rfl)
    by_cases i140 : i = 140
    · subst i140
      refine o140 (fun k hk' => ?_) k
      rw [hk k hk']
      exact (pS_b).symm
    · refine oF_cg ?_ rfl k
      rw [hs i i140]
      exact funext fun k => (pS_ne i140).symm
  rw [e _ (fun i hi => funext fun k => ?_) (fun k hk => ?_)]
  · repeat rw [up2_ne (fun z => hi z.1)]
  · rcases hk with e | e | e | e | e | e | e | e | e | e <;> subst e <;> rfl
end SW
