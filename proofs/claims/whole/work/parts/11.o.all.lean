/-! FACE: predictions that run all their ticks -/
section SL
variable {nz ns n : Nat} {q pg : Nat → Int32} {sa : Nat → Nat → Int32} {c : HP}
theorem zn_f {f : Nat → Int32} {a : Nat → Nat → Int32} (hI : INV nz ns f a) : zn (f 2) = ns := by
  have i2 := hI.1.2.1
  rw [hI.1.1]
  exact zn_nI (by omega)
theorem sf_fin {N : Nat} (hN : N ≤ 300) (h0 : 0 < nz) {x : Int32} : ∀ m k (stk f D : Nat → Int32) (a : Nat → Nat → Int32) (J : Nat → Nat → Int64), k + m = N → finB (a 6) 0 ns = true → INV nz ns f a → EQL nz ns f a D → STA nz q sa n pg D →
    ∃ J' D' f' a', J' 155 = J 155 ∧ (∀ d K, Ev (d + 5) 153 52 [some (.ref 140), some (.int x), some (.int (nI N)), some (.int (nI k))] [] (dH c J D) K = Ev (d + 5) 153 67 [some (.ref 140), some (.int x), some (.int (nI N)), some (.int (nI N))] [] (dH c J' D') K) ∧ a' 6 = a 6 ∧ INV nz ns f' a' ∧ EQL nz ns f' a' D' ∧ STA nz q sa n pg D'
  | 0, k, stk, f, D, a, J, hk, hf, hI, hE, hS => by
    have hkN : k = N := by omega
    rw [hkN]
    refine ⟨J, D, f, a, rfl, fun d K => ?_, rfl, hI, hE, hS⟩
    rw [i153_52]
    simp only [i153_53, i153_54, i153_57, i153_58, i153_61, i153_64, nl_i, nl_r, nl_0, nl_j, nb0, nb1, nbI, orv_s, konN_v, konN_n, konN_e, true_and, and_true, and_self, if_true, if_false, ite_true, ite_false, isR_ref, true_or, or_true, bI_T, bI_F, bI_Fb, i1z, Bool.false_eq_true, show (nI N ≤ nI N) = True from eq_true (Int32.le_refl _)]
  | m + 1, k, stk, f, D, a, J, hk, hf, hI, hE, hS => by
    have hle : (nI N ≤ nI k) = False := eq_false (fun y => by
      have := (nI_leI (a := N) (b := k) (by omega) (by omega)).mp y
      omega)
    obtain ⟨J1, D1, g1, r1, x1, x2, x3⟩ := tick_step (c := c) (J := J) (stk := stk) h0 hI hE hS
    have fs := fin_stay (stk := stk) (pg := pg) (n := n) (sa := sa) hI hS.1.1 hS.1.2.1 hf
    obtain ⟨J2, D2, f2, a2, g2, r2, y1, y⟩ := sf_fin hN h0 (x := x) m (k + 1) (tickL sa q pg n (stk, f, a)).1 (tickL sa q pg n (stk, f, a)).2.1 D1 (tickL sa q pg n (stk, f, a)).2.2 J1 (by omega) (by rw [fs.1]; exact hf) x1 x2 x3
    refine ⟨J2, D2, f2, a2, g2.trans g1, fun d K => ?_, y1.trans fs.1, y⟩
    rw [← r2, i153_52]
    simp only [i153_53, i153_54, i153_57, i153_58, i153_61, i153_64, nl_i, nl_r, nl_0, nl_j, nb0, nb1, nbI, orv_s, konN_v, konN_n, konN_e, true_and, and_true, and_self, if_true, if_false, ite_true, ite_false, isR_ref, true_or, or_true, bI_T, bI_F, bI_Fb, i1z, Bool.false_eq_true, d_k, d_f8, d_k2, d_l2, d_a2, d_wa2, s_zoneAt, s_sheetAt, s_kindAt, nI_1, nI_p2, nI_p3, nI_p4, nI_p5, nI_p6, ib_0, ib_1, ib_2, ib_3, ib_4, ib_5, ib_6, ib_7, ib_8, iz_0, iz_1, iz_2, iz_3, iz_4, iz_5, iz_6, iz_7, iz_8, ze_0, ze_1, ze_2, ze_3, ze_4, ze_5, ze_6, ze_7, ze_8, hle, r1, nI_1]
theorem sf_loop {N : Nat} (hN : N ≤ 300) (h0 : 0 < nz) {x : Int32} : ∀ m k (stk f D : Nat → Int32) (a : Nat → Nat → Int32) (J : Nat → Nat → Int64), k + m = N → INV nz ns f a → EQL nz ns f a D → STA nz q sa n pg D →
    ∃ J' D' f' a', J' 155 = J 155 ∧ (∀ d K, Ev (d + 5) 153 52 [some (.ref 140), some (.int x), some (.int (nI N)), some (.int (nI k))] [] (dH c J D) K = Ev (d + 5) 153 67 [some (.ref 140), some (.int x), some (.int (nI N)), some (.int (nI N))] [] (dH c J' D') K) ∧ a' 6 = (ttfF sa q pg n k m (stk, f, a)).2.2.2 6 ∧ INV nz ns f' a' ∧ EQL nz ns f' a' D' ∧ STA nz q sa n pg D'
  | 0, k, stk, f, D, a, J, hk, hI, hE, hS => by
    have hkN : k = N := by omega
    rw [hkN]
    refine ⟨J, D, f, a, rfl, fun d K => ?_, rfl, hI, hE, hS⟩
    rw [i153_52]
    simp only [i153_53, i153_54, i153_57, i153_58, i153_61, i153_64, nl_i, nl_r, nl_0, nl_j, nb0, nb1, nbI, orv_s, konN_v, konN_n, konN_e, true_and, and_true, and_self, if_true, if_false, ite_true, ite_false, isR_ref, true_or, or_true, bI_T, bI_F, bI_Fb, i1z, Bool.false_eq_true, show (nI N ≤ nI N) = True from eq_true (Int32.le_refl _)]
  | m + 1, k, stk, f, D, a, J, hk, hI, hE, hS => by
    by_cases hf : finB (a 6) 0 ns = true
    · have e : ttfF sa q pg n k (m + 1) (stk, f, a) = (nI k, stk, f, a) := if_pos (by show finB (a 6) 0 (zn (f 2)) = true; rw [zn_f hI]; exact hf)
      rw [e]
      exact sf_fin hN h0 (m + 1) k stk f D a J hk hf hI hE hS
    · have e : ttfF sa q pg n k (m + 1) (stk, f, a) = ttfF sa q pg n (k + 1) m (tickL sa q pg n (stk, f, a)) := if_neg (by show ¬ finB (a 6) 0 (zn (f 2)) = true; rw [zn_f hI]; exact hf)
      rw [e]
      have hle : (nI N ≤ nI k) = False := eq_false (fun y => by
        have := (nI_leI (a := N) (b := k) (by omega) (by omega)).mp y
        omega)
      obtain ⟨J1, D1, g1, r1, x1, x2, x3⟩ := tick_step (c := c) (J := J) (stk := stk) h0 hI hE hS
      obtain ⟨J2, D2, f2, a2, g2, r2, y⟩ := sf_loop hN h0 (x := x) m (k + 1) (tickL sa q pg n (stk, f, a)).1 (tickL sa q pg n (stk, f, a)).2.1 D1 (tickL sa q pg n (stk, f, a)).2.2 J1 (by omega) x1 x2 x3
      refine ⟨J2, D2, f2, a2, g2.trans g1, fun d K => ?_, y⟩
      rw [← r2, i153_52]
      simp only [i153_53, i153_54, i153_57, i153_58, i153_61, i153_64, nl_i, nl_r, nl_0, nl_j, nb0, nb1, nbI, orv_s, konN_v, konN_n, konN_e, true_and, and_true, and_self, if_true, if_false, ite_true, ite_false, isR_ref, true_or, or_true, bI_T, bI_F, bI_Fb, i1z, Bool.false_eq_true, d_k, d_f8, d_k2, d_l2, d_a2, d_wa2, s_zoneAt, s_sheetAt, s_kindAt, nI_1, nI_p2, nI_p3, nI_p4, nI_p5, nI_p6, ib_0, ib_1, ib_2, ib_3, ib_4, ib_5, ib_6, ib_7, ib_8, iz_0, iz_1, iz_2, iz_3, iz_4, iz_5, iz_6, iz_7, iz_8, ze_0, ze_1, ze_2, ze_3, ze_4, ze_5, ze_6, ze_7, ze_8, hle, r1, nI_1]
theorem dw_fin {N : Nat} (hN : N ≤ 300) (hE2 : N = 200) (h0 : 0 < nz) {x : Int32} : ∀ m k (stk f D : Nat → Int32) (a : Nat → Nat → Int32) (J : Nat → Nat → Int64), k + m = N → finB (a 6) 0 ns = true → INV nz ns f a → EQL nz ns f a D → STA nz q sa n pg D →
    ∃ J' D' f' a', J' 155 = J 155 ∧ (∀ d K, Ev (d + 5) 154 30 [some (.ref 140), some (.int x), some (.int (nI k))] [] (dH c J D) K = Ev (d + 5) 154 47 [some (.ref 140), some (.int x), some (.int (nI N))] [] (dH c J' D') K) ∧ a' 6 = a 6 ∧ INV nz ns f' a' ∧ EQL nz ns f' a' D' ∧ STA nz q sa n pg D'
  | 0, k, stk, f, D, a, J, hk, hf, hI, hE, hS => by
    have hkN : k = N := by omega
    rw [hkN]
    refine ⟨J, D, f, a, rfl, fun d K => ?_, rfl, hI, hE, hS⟩
    rw [i154_30]
    simp only [i154_31, i154_34, i154_37, i154_38, i154_41, i154_44, nl_i, nl_r, nl_0, nl_j, nb0, nb1, nbI, orv_s, konN_v, konN_n, konN_e, true_and, and_true, and_self, if_true, if_false, ite_true, ite_false, isR_ref, true_or, or_true, bI_T, bI_F, bI_Fb, i1z, Bool.false_eq_true, show (200 : Int32) = nI N from by rw [hE2]; rfl, show (nI N ≤ nI N) = True from eq_true (Int32.le_refl _)]
  | m + 1, k, stk, f, D, a, J, hk, hf, hI, hE, hS => by
    have hle : (nI N ≤ nI k) = False := eq_false (fun y => by
      have := (nI_leI (a := N) (b := k) (by omega) (by omega)).mp y
      omega)
    obtain ⟨J1, D1, g1, r1, x1, x2, x3⟩ := tick_step (c := c) (J := J) (stk := stk) h0 hI hE hS
    have fs := fin_stay (stk := stk) (pg := pg) (n := n) (sa := sa) hI hS.1.1 hS.1.2.1 hf
    obtain ⟨J2, D2, f2, a2, g2, r2, y1, y⟩ := dw_fin hN hE2 h0 (x := x) m (k + 1) (tickL sa q pg n (stk, f, a)).1 (tickL sa q pg n (stk, f, a)).2.1 D1 (tickL sa q pg n (stk, f, a)).2.2 J1 (by omega) (by rw [fs.1]; exact hf) x1 x2 x3
    refine ⟨J2, D2, f2, a2, g2.trans g1, fun d K => ?_, y1.trans fs.1, y⟩
    rw [← r2, i154_30]
    simp only [i154_31, i154_34, i154_37, i154_38, i154_41, i154_44, nl_i, nl_r, nl_0, nl_j, nb0, nb1, nbI, orv_s, konN_v, konN_n, konN_e, true_and, and_true, and_self, if_true, if_false, ite_true, ite_false, isR_ref, true_or, or_true, bI_T, bI_F, bI_Fb, i1z, Bool.false_eq_true, d_k, d_f8, d_k2, d_l2, d_a2, d_wa2, s_zoneAt, s_sheetAt, s_kindAt, nI_1, nI_p2, nI_p3, nI_p4, nI_p5, nI_p6, ib_0, ib_1, ib_2, ib_3, ib_4, ib_5, ib_6, ib_7, ib_8, iz_0, iz_1, iz_2, iz_3, iz_4, iz_5, iz_6, iz_7, iz_8, ze_0, ze_1, ze_2, ze_3, ze_4, ze_5, ze_6, ze_7, ze_8, show (200 : Int32) = nI N from by rw [hE2]; rfl, hle, r1, nI_1]
theorem dw_loop {N : Nat} (hN : N ≤ 300) (hE2 : N = 200) (h0 : 0 < nz) {x : Int32} : ∀ m k (stk f D : Nat → Int32) (a : Nat → Nat → Int32) (J : Nat → Nat → Int64), k + m = N → INV nz ns f a → EQL nz ns f a D → STA nz q sa n pg D →
    ∃ J' D' f' a', J' 155 = J 155 ∧ (∀ d K, Ev (d + 5) 154 30 [some (.ref 140), some (.int x), some (.int (nI k))] [] (dH c J D) K = Ev (d + 5) 154 47 [some (.ref 140), some (.int x), some (.int (nI N))] [] (dH c J' D') K) ∧ a' 6 = (ttfF sa q pg n k m (stk, f, a)).2.2.2 6 ∧ INV nz ns f' a' ∧ EQL nz ns f' a' D' ∧ STA nz q sa n pg D'
  | 0, k, stk, f, D, a, J, hk, hI, hE, hS => by
    have hkN : k = N := by omega
    rw [hkN]
    refine ⟨J, D, f, a, rfl, fun d K => ?_, rfl, hI, hE, hS⟩
    rw [i154_30]
    simp only [i154_31, i154_34, i154_37, i154_38, i154_41, i154_44, nl_i, nl_r, nl_0, nl_j, nb0, nb1, nbI, orv_s, konN_v, konN_n, konN_e, true_and, and_true, and_self, if_true, if_false, ite_true, ite_false, isR_ref, true_or, or_true, bI_T, bI_F, bI_Fb, i1z, Bool.false_eq_true, show (200 : Int32) = nI N from by rw [hE2]; rfl, show (nI N ≤ nI N) = True from eq_true (Int32.le_refl _)]
  | m + 1, k, stk, f, D, a, J, hk, hI, hE, hS => by
    by_cases hf : finB (a 6) 0 ns = true
    · have e : ttfF sa q pg n k (m + 1) (stk, f, a) = (nI k, stk, f, a) := if_pos (by show finB (a 6) 0 (zn (f 2)) = true; rw [zn_f hI]; exact hf)
      rw [e]
      exact dw_fin hN hE2 h0 (m + 1) k stk f D a J hk hf hI hE hS
    · have e : ttfF sa q pg n k (m + 1) (stk, f, a) = ttfF sa q pg n (k + 1) m (tickL sa q pg n (stk, f, a)) := if_neg (by show ¬ finB (a 6) 0 (zn (f 2)) = true; rw [zn_f hI]; exact hf)
      rw [e]
      have hle : (nI N ≤ nI k) = False := eq_false (fun y => by
        have := (nI_leI (a := N) (b := k) (by omega) (by omega)).mp y
        omega)
      obtain ⟨J1, D1, g1, r1, x1, x2, x3⟩ := tick_step (c := c) (J := J) (stk := stk) h0 hI hE hS
      obtain ⟨J2, D2, f2, a2, g2, r2, y⟩ := dw_loop hN hE2 h0 (x := x) m (k + 1) (tickL sa q pg n (stk, f, a)).1 (tickL sa q pg n (stk, f, a)).2.1 D1 (tickL sa q pg n (stk, f, a)).2.2 J1 (by omega) x1 x2 x3
      refine ⟨J2, D2, f2, a2, g2.trans g1, fun d K => ?_, y⟩
      rw [← r2, i154_30]
      simp only [i154_31, i154_34, i154_37, i154_38, i154_41, i154_44, nl_i, nl_r, nl_0, nl_j, nb0, nb1, nbI, orv_s, konN_v, konN_n, konN_e, true_and, and_true, and_self, if_true, if_false, ite_true, ite_false, isR_ref, true_or, or_true, bI_T, bI_F, bI_Fb, i1z, Bool.false_eq_true, d_k, d_f8, d_k2, d_l2, d_a2, d_wa2, s_zoneAt, s_sheetAt, s_kindAt, nI_1, nI_p2, nI_p3, nI_p4, nI_p5, nI_p6, ib_0, ib_1, ib_2, ib_3, ib_4, ib_5, ib_6, ib_7, ib_8, iz_0, iz_1, iz_2, iz_3, iz_4, iz_5, iz_6, iz_7, iz_8, ze_0, ze_1, ze_2, ze_3, ze_4, ze_5, ze_6, ze_7, ze_8, show (200 : Int32) = nI N from by rw [hE2]; rfl, hle, r1, nI_1]
end SL
