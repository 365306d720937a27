/-! FACE: scrap -/
section SC
variable {d : Nat} {h : AH} {hh : AH} {T : Nat → Bool} {U S A : Nat → Nat → Int32} {J : Nat → Nat → Int64} {G : Nat → Nat} {K : AO → AH → Prop} {c : HP} {x y v w u p : Int32} {nz ns k mc mr t n s nx : Nat} {as : List Value} {q pg f : Nat → Int32} {sa : Nat → Nat → Int32}
theorem sc_loop (hns : ns ≤ 20) (hnz : nz ≤ 6) : ∀ m k (a : Nat → Nat → Int32) (D : Nat → Int32), k + m = nz → EQL nz ns f a D → STA nz q sa n pg D →
    ∃ D' : Nat → Int32, (∀ d K, Ev (d + 3) 162 55 [some (.ref 140), some (.int x), some (.int p), some (.int (nI k))] [] (dH c J D) K = Ev (d + 3) 162 86 [some (.ref 140), some (.int x), some (.int p), some (.int (nI nz))] [] (dH c J D') K) ∧
      EQL nz ns f (upf a 3 (itn (unStep x) k m (a 3))) D' ∧ STA nz q sa n pg D'
  | 0, k, a, D, hk, hE, hS => by
    obtain rfl : k = nz := by omega
    have d0 := hS.1.2.2
    refine ⟨D, fun d K => ?_, ?_, hS⟩
    · rw [i162_55]
      simp only [i162_56, i162_57, i162_60, i162_61, i162_62, i162_65, i162_66, i162_67, i162_70, i162_71, i162_74, i162_75, i162_76, i162_77, i162_80, i162_83, nl_i, nl_r, nl_0, nl_j, nb0, nb1, nbI, orv_s, konN_v, konN_n, konN_e, true_and, and_true, and_self, if_true, if_false, ite_true, ite_false, isR_ref, true_or, or_true, bI_T, bI_F, bI_Fb, i1z, Bool.false_eq_true, d_k, d_f8, d_k2, d_l2, d_a2, d_wa2, s_zoneAt, s_sheetAt, s_kindAt, nI_1, nI_p2, nI_p3, nI_p4, nI_p5, nI_p6, ib_0, ib_1, ib_2, ib_3, ib_4, ib_5, ib_6, ib_7, ib_8, iz_0, iz_1, iz_2, iz_3, iz_4, iz_5, iz_6, iz_7, iz_8, ze_0, ze_1, ze_2, ze_3, ze_4, ze_5, ze_6, ze_7, ze_8, d0, show (nI k ≤ nI k) = True from eq_true (Int32.le_refl _)]
    · rw [itn, upf_id]
      exact hE
  | m + 1, k, a, D, hk, hE, hS => by
    have d0 := hS.1.2.2
    have hkz : k < nz := by omega
    have e3 := (hE.2.1 k hkz).2.2
    have hle : (nI nz ≤ nI k) = False := eq_false (fun y => by
      have := (nI_leI (a := nz) (b := k) (by omega) (by omega)).mp y
      omega)
    rw [itn]
    by_cases e : a 3 k = x
    · have hu : unStep x k (a 3) = upd (a 3) k (-1) := if_pos e
      obtain ⟨D', r, b1, b2⟩ := sc_loop hns hnz m (k + 1) (upf a 3 (upd (a 3) k (-1))) (upd D (9 + 7 * k + 6) (-1 + 1)) (by omega) (EQ_3 hnz hns (by omega) rfl hE) (STA_upd (Or.inr (Or.inr (Or.inr (Or.inr (Or.inl ⟨k, by omega, Or.inr (Or.inr rfl)⟩))))) hS)
      rw [upf_same, upf_upf] at b1
      rw [hu]
      refine ⟨D', fun d K => ?_, b1, b2⟩
      rw [← r, i162_55]
      simp only [i162_56, i162_57, i162_60, i162_61, i162_62, i162_65, i162_66, i162_67, i162_70, i162_71, i162_74, i162_75, i162_76, i162_77, i162_80, i162_83, nl_i, nl_r, nl_0, nl_j, nb0, nb1, nbI, orv_s, konN_v, konN_n, konN_e, true_and, and_true, and_self, if_true, if_false, ite_true, ite_false, isR_ref, true_or, or_true, bI_T, bI_F, bI_Fb, i1z, Bool.false_eq_true, d_k, d_f8, d_k2, d_l2, d_a2, d_wa2, s_zoneAt, s_sheetAt, s_kindAt, nI_1, nI_p2, nI_p3, nI_p4, nI_p5, nI_p6, ib_0, ib_1, ib_2, ib_3, ib_4, ib_5, ib_6, ib_7, ib_8, iz_0, iz_1, iz_2, iz_3, iz_4, iz_5, iz_6, iz_7, iz_8, ze_0, ze_1, ze_2, ze_3, ze_4, ze_5, ze_6, ze_7, ze_8, d0, hle, s_held (show k < 6 by omega), e3, i1c, e, s_hold (show k < 6 by omega), nI_1]
    · have hu : unStep x k (a 3) = a 3 := if_neg e
      obtain ⟨D', r, b1, b2⟩ := sc_loop hns hnz m (k + 1) a D (by omega) hE hS
      rw [hu]
      refine ⟨D', fun d K => ?_, b1, b2⟩
      rw [← r, i162_55]
      simp only [i162_56, i162_57, i162_60, i162_61, i162_62, i162_65, i162_66, i162_67, i162_70, i162_71, i162_74, i162_75, i162_76, i162_77, i162_80, i162_83, nl_i, nl_r, nl_0, nl_j, nb0, nb1, nbI, orv_s, konN_v, konN_n, konN_e, true_and, and_true, and_self, if_true, if_false, ite_true, ite_false, isR_ref, true_or, or_true, bI_T, bI_F, bI_Fb, i1z, Bool.false_eq_true, d_k, d_f8, d_k2, d_l2, d_a2, d_wa2, s_zoneAt, s_sheetAt, s_kindAt, nI_1, nI_p2, nI_p3, nI_p4, nI_p5, nI_p6, ib_0, ib_1, ib_2, ib_3, ib_4, ib_5, ib_6, ib_7, ib_8, iz_0, iz_1, iz_2, iz_3, iz_4, iz_5, iz_6, iz_7, iz_8, ze_0, ze_1, ze_2, ze_3, ze_4, ze_5, ze_6, ze_7, ze_8, d0, hle, s_held (show k < 6 by omega), e3, i1c, e, nI_1]
theorem gr28 (hn : nx < 8) : Gr G nx 28 = G 28 := upf_ne _ _ (by omega)
theorem sp_inv {a : Nat → Nat → Int32} (hI : INV nz ns f a) (hs : s < ns) (hst : a 6 s = 0 ∨ a 6 s = 1) : INV nz ns f (spoilL nz (nI s) a) := by
  obtain ⟨⟨i1, i2, i3⟩, i4, ⟨i5, i6⟩, i7, i8, i9⟩ := hI
  have n2 : ¬ a 6 s = 2 := by
    rcases hst with e | e <;> rw [e] <;> decide
  have e6 : spoilL nz (nI s) a 6 = upd (a 6) s 5 := by
    unfold spoilL
    rw [upf_ne _ _ (by decide), upf_same, show zn (nI s) = s from zn_nI (by omega)]
  have e3 : spoilL nz (nI s) a 3 = fun j => if 0 ≤ j ∧ j < 0 + nz ∧ a 3 j = nI s then -1 else a 3 j := by
    unfold spoilL
    rw [upf_same, un_eq]
  have eo : ∀ j, ¬ j = 3 → ¬ j = 6 → spoilL nz (nI s) a j = a j := fun j j1 j2 => by
    unfold spoilL
    rw [upf_ne _ _ j1, upf_ne _ _ j2]
  refine ⟨⟨i1, i2, i3⟩, ?_, ⟨fun z hz => ?_, fun z z' hz hz' hne he => ?_⟩, fun z hz => ?_, fun s' hs' => ?_, fun k hk => ?_⟩
  · rcases i4 with e | ⟨s', s1, s2, s3, s4⟩
    · exact Or.inl e
    · refine Or.inr ⟨s', s1, s2, s3, ?_⟩
      rw [e6, upd_nz (fun e => n2 (by rw [← e]; exact s4))]
      exact s4
  · rw [e3, e6]
    by_cases e : a 3 z = nI s
    · exact Or.inl (if_pos ⟨Nat.zero_le _, by omega, e⟩)
    · rcases i5 z hz with e' | ⟨s', s1, s2, s3⟩
      · exact Or.inl ((if_neg (fun y => e y.2.2)).trans e')
      · refine Or.inr ⟨s', s1, (if_neg (fun y => e y.2.2)).trans s2, ?_⟩
        rw [upd_nz (fun y => e (by rw [s2, y]))]
        exact s3
  · rw [e3] at he ⊢
    by_cases e : a 3 z = nI s
    · exact if_pos ⟨Nat.zero_le _, by omega, e⟩
    · have g1 : (if 0 ≤ z ∧ z < 0 + nz ∧ a 3 z = nI s then (-1 : Int32) else a 3 z) = a 3 z := if_neg (fun y => e y.2.2)
      by_cases e' : a 3 z' = nI s
      · have g2 : (if 0 ≤ z' ∧ z' < 0 + nz ∧ a 3 z' = nI s then (-1 : Int32) else a 3 z') = -1 := if_pos ⟨Nat.zero_le _, by omega, e'⟩
        exact he.trans g2
      · have g2 : (if 0 ≤ z' ∧ z' < 0 + nz ∧ a 3 z' = nI s then (-1 : Int32) else a 3 z') = a 3 z' := if_neg (fun y => e' y.2.2)
        exact g1.trans (i6 z z' hz hz' hne (g1.symm.trans (he.trans g2)))
  · rw [eo 1 (by omega) (by omega), eo 2 (by omega) (by omega)]
    exact i7 z hz
  · rw [eo 4 (by omega) (by omega), eo 5 (by omega) (by omega), e6]
    refine ⟨(i8 s' hs').1, (i8 s' hs').2.1, ?_⟩
    by_cases e : s' = s
    · rw [e, upd_eq]; decide
    · rw [upd_nz e]; exact (i8 s' hs').2.2
  · rw [eo 10 (by omega) (by omega)]
    exact i9 k hk
theorem o_scrap (hG : GR h T S A G) : JW (h, T, U, S, A, J, G) 181 162 [.int x] := by
  obtain ⟨t, q, sa, n, pg, nz, ns, hs, hN', hS, hI, hE, m, hm, hC⟩ := hG.2.1
  have n6 := hS.1.2.1
  have d0 := hS.1.2.2
  have q0 := hS.1.1
  have i2 := hI.1.2.1
  have hb := hb28
  have zq : zn (q 0) = nz := by rw [q0]; exact zn_nI (by omega)
  by_cases hx : 0 ≤ x ∧ x < nI ns
  · obtain ⟨s, hs', rfl⟩ := idx_of hx i2
    have e6 : A 142 (51 + 3 * s + 2) = A (28 + 6) s := (hE.2.2.1 s hs').2.2
    have r6 : 0 ≤ A (28 + 6) s ∧ A (28 + 6) s ≤ 5 := (hI.2.2.2.2.1 s hs').2.2
    have b20 : inb (nI s) 20 = True := inbT (show s < 20 by omega) (by omega)
    by_cases hst : A (28 + 6) s = 0 ∨ A (28 + 6) s = 1
    · obtain ⟨nx, kp, ⟨hn, hk⟩, ⟨e1, e2, e3⟩, H⟩ := hG.2.2.2
      have hs2 : SUp h T (Gr G nx 28) t q sa n pg := by rw [gr28 hn]; exact hs
      obtain ⟨A3, r3, a3, r5⟩ := m_rem (U := U) (J := upf J 155 (vp_updL (J 155) 0 (A (28 + 6) s).toInt64)) hn hk e1 e2 e3 H hG (S 28) (spoilL nz (nI s) (fun j => A (28 + j)))
      have hE1 := EQ_6 (x := s) (v := 5) n6 i2 (by omega) hE
      have hS1 := STA_upd (i := 51 + 3 * s + 2) (v := 5) (Or.inr (Or.inr (Or.inr (Or.inr (Or.inr (Or.inl ⟨by omega, by omega⟩)))))) hS
      obtain ⟨D', r6', b1, b2⟩ := sc_loop (c := (h, T, U, Sm (pS (Sr S nx kp) 28 (S 28)) kp, A3, J, Gr G nx)) (J := upf J 155 (vp_updL (J 155) 0 (A (28 + 6) s).toInt64)) (x := nI s) (p := A (28 + 6) s) i2 n6 nz 0 _ _ (by omega) hE1 hS1
      have es : upf (upf (fun j => A (28 + j)) 6 (upd (A (28 + 6)) s 5)) 3 (itn (unStep (nI s)) 0 nz ((upf (fun j => A (28 + j)) 6 (upd (A (28 + 6)) s 5)) 3)) = spoilL nz (nI s) (fun j => A (28 + j)) := by
        unfold spoilL
        rw [upf_ne _ _ (show ¬ 3 = 6 by decide), show zn (nI s) = s from zn_nI (by omega)]
      have b1' : EQL nz ns (S 28) (spoilL nz (nI s) (fun j => A (28 + j))) D' := by rw [← es]; exact b1
      refine JW_v (c := (h, T, U, S, A, J, G)) (v := A (28 + 6) s) (c1 := (h, T, U, pS (Sr S nx kp) 28 (S 28), pA (Ar A nx) 28 (spoilL nz (nI s) (fun j => A (28 + j))), J, Gr G nx)) (wv181 (fun d K => ?_)) (fun d K => ?_) (r5 D' U U J (upf J 155 (vp_updL (J 155) 0 (A (28 + 6) s).toInt64)) ?_) ?_ (show upf J 155 (vp_updL (J 155) 0 (A (28 + 6) s).toInt64) 155 = _ from upf_same _ _ _)
      · show EvM (d + 30) 76 [.ref 0, .int (nI s)] (MH h T U S A J G) K = K (.inl (some (.int (A (28 + 6) s)))) (MH h T U (pS (Sr S nx kp) 28 (S 28)) (pA (Ar A nx) 28 (spoilL nz (nI s) (fun j => A (28 + j)))) J (Gr G nx))
        have hsp := fun d K => s_spoil (d := d) (h := h) (T := T) (U := U) (S := Sr S nx kp) (A := Ar A nx) (J := J) (G := Gr G nx) (K := K) (f := S 28) (a := fun j => A (28 + j)) (x := nI s) hb hs2 hx.1 (by rw [hI.1.1]; exact hx.2) (by rw [hI.1.1, show zn (nI ns) = ns from zn_nI (by omega)]; exact i2)
        rw [zq] at hsp
        rcases hst with e | e
        · simp only [in76, i76_0, i76_1, i76_2, i76_5, i76_8, i76_11, i76_12, i76_15, i76_18, i76_19, i76_20, i76_21, i76_22, i76_25, i76_26, i76_27, i76_30, i76_33, i76_34, i76_40, i76_41, i76_44, i76_45, i76_48, i76_51, i76_52, i76_55, i76_56, i76_59, i76_60, nl_i, nl_r, nl_0, nl_j, nb0, nb1, nbI, orv_s, konN_v, konN_n, konN_e, true_and, and_true, and_self, if_true, if_false, ite_true, ite_false, isR_ref, true_or, or_true, bI_T, bI_F, bI_Fb, i1z, Bool.false_eq_true, k_l0 hb, k_l1 hb, k_l2 hb, k_l3 hb, k_l4 hb, k_l5 hb, k_l6 hb, k_l7 hb, k_l8 hb, k_l9 hb, k_l10 hb, l_l1 hb, l_l2 hb, l_l3 hb, l_l4 hb, l_l5 hb, l_l6 hb, l_l7 hb, l_l8 hb, l_l9 hb, l_l10 hb, a_l1 hb, a_l2 hb, a_l3 hb, a_l4 hb, a_l5 hb, a_l6 hb, a_l7 hb, a_l8 hb, a_l9 hb, a_l10 hb, wa_l1 hb, wa_l2 hb, wa_l3 hb, wa_l4 hb, wa_l5 hb, wa_l6 hb, wa_l7 hb, wa_l8 hb, wa_l9 hb, wa_l10 hb, f_l0 hb, f_l1 hb, f_l2 hb, f_l3 hb, f_l4 hb, f_l5 hb, f_l6 hb, f_l7 hb, f_l8 hb, f_l9 hb, f_l10 hb, f_l11 hb, f_l12 hb, f_l13 hb, f_l14 hb, w_l0 hb, w_l1 hb, w_l2 hb, w_l3 hb, w_l4 hb, pS_b, pS_up, pA_1, pA_2, pA_3, pA_4, pA_5, pA_6, pA_7, pA_8, pA_9, pA_10, pU_1, pU_2, pU_3, pU_4, pU_5, pU_6, pU_7, pU_8, pU_9, pU_10, mh_N, mh_S, mh_X, mh_alH, k_0, f_0_1, f_0_3, k_50, hI.1.1, s_ri0 hx, e, p_remember e1 hn e2 hk, b20, zn_nI (show s < 2 ^ 31 by omega), hsp]
        · simp only [in76, i76_0, i76_1, i76_2, i76_5, i76_8, i76_11, i76_12, i76_15, i76_18, i76_19, i76_20, i76_21, i76_22, i76_25, i76_26, i76_27, i76_30, i76_33, i76_34, i76_40, i76_41, i76_44, i76_45, i76_48, i76_51, i76_52, i76_55, i76_56, i76_59, i76_60, nl_i, nl_r, nl_0, nl_j, nb0, nb1, nbI, orv_s, konN_v, konN_n, konN_e, true_and, and_true, and_self, if_true, if_false, ite_true, ite_false, isR_ref, true_or, or_true, bI_T, bI_F, bI_Fb, i1z, Bool.false_eq_true, k_l0 hb, k_l1 hb, k_l2 hb, k_l3 hb, k_l4 hb, k_l5 hb, k_l6 hb, k_l7 hb, k_l8 hb, k_l9 hb, k_l10 hb, l_l1 hb, l_l2 hb, l_l3 hb, l_l4 hb, l_l5 hb, l_l6 hb, l_l7 hb, l_l8 hb, l_l9 hb, l_l10 hb, a_l1 hb, a_l2 hb, a_l3 hb, a_l4 hb, a_l5 hb, a_l6 hb, a_l7 hb, a_l8 hb, a_l9 hb, a_l10 hb, wa_l1 hb, wa_l2 hb, wa_l3 hb, wa_l4 hb, wa_l5 hb, wa_l6 hb, wa_l7 hb, wa_l8 hb, wa_l9 hb, wa_l10 hb, f_l0 hb, f_l1 hb, f_l2 hb, f_l3 hb, f_l4 hb, f_l5 hb, f_l6 hb, f_l7 hb, f_l8 hb, f_l9 hb, f_l10 hb, f_l11 hb, f_l12 hb, f_l13 hb, f_l14 hb, w_l0 hb, w_l1 hb, w_l2 hb, w_l3 hb, w_l4 hb, pS_b, pS_up, pA_1, pA_2, pA_3, pA_4, pA_5, pA_6, pA_7, pA_8, pA_9, pA_10, pU_1, pU_2, pU_3, pU_4, pU_5, pU_6, pU_7, pU_8, pU_9, pU_10, mh_N, mh_S, mh_X, mh_alH, k_0, f_0_1, f_0_3, k_50, hI.1.1, s_ri0 hx, e, i1n0, p_remember e1 hn e2 hk, b20, zn_nI (show s < 2 ^ 31 by omega), hsp]
      · show EvM (d + 40) 162 [.ref 140, .int (nI s)] (MH h T U (pS (Sr S nx kp) 28 (S 28)) (pA (Ar A nx) 28 (spoilL nz (nI s) (fun j => A (28 + j)))) (upf J 155 (vp_updL (J 155) 0 (A (28 + 6) s).toInt64)) (Gr G nx)) K = K (.inl (some (.int (A (28 + 6) s)))) (MH h T U (Sm (pS (Sr S nx kp) 28 (S 28)) kp) (upf A3 142 D') (upf J 155 (vp_updL (J 155) 0 (A (28 + 6) s).toInt64)) (Gr G nx))
        have ar : pA (Ar A nx) 28 (spoilL nz (nI s) (fun j => A (28 + j))) 142 = A 142 := by
          rw [pA_o (by omega)]
          exact pA_o (by omega)
        have d1 := hE.1.1
        rw [← ar] at d1
        have lp := r6' (d + 37) K
        rw [nI_0] at lp
        have lp : Ev (d + 40) 162 55 [some (.ref 140), some (.int (nI s)), some (.int (A (28 + 6) s)), some (.int 0)] [] (MH h T U (Sm (pS (Sr S nx kp) 28 (S 28)) kp) (upf A3 142 (upd (A 142) (51 + 3 * s + 2) 5)) (upf J 155 (vp_updL (J 155) 0 (A (28 + 6) s).toInt64)) (Gr G nx)) K = Ev (d + 40) 162 86 [some (.ref 140), some (.int (nI s)), some (.int (A (28 + 6) s)), some (.int (nI nz))] [] (MH h T U (Sm (pS (Sr S nx kp) 28 (S 28)) kp) (upf A3 142 D') (upf J 155 (vp_updL (J 155) 0 (A (28 + 6) s).toInt64)) (Gr G nx)) K := lp
        have l1 : (A (28 + 6) s ≤ 1) = True := by
          rcases hst with e | e <;> rw [e] <;> exact eq_true (by decide)
        simp only [i162_0, i162_1, i162_2, i162_5, i162_6, i162_7, i162_10, i162_13, i162_14, i162_15, i162_16, i162_19, i162_20, i162_23, i162_24, i162_27, i162_28, i162_29, i162_32, i162_35, i162_36, i162_37, i162_38, i162_41, i162_42, i162_43, i162_46, i162_47, i162_48, i162_49, i162_50, i162_53, i162_54, in162, in119, i119_0, i119_1, i119_4, i119_5, i119_8, i119_9, i119_10, i119_11, in120, i120_0, i120_1, i120_4, i120_5, i120_8, i120_9, i120_10, i120_11, i120_12, s_sheetAt, nl_i, nl_r, nl_0, nl_j, nb0, nb1, nbI, orv_s, konN_v, konN_n, konN_e, true_and, and_true, and_self, if_true, if_false, ite_true, ite_false, isR_ref, true_or, or_true, bI_T, bI_F, bI_Fb, i1z, Bool.false_eq_true, k_140, f_140_1, f_140_8, f_140_9, f_140_10, f_140_11, f_140_15, f_140_0, f_140_2, f_140_3, f_140_4, f_140_5, f_140_6, f_140_7, f_140_12, f_140_13, f_140_14, w_140_0, w_140_2, w_140_3, w_140_4, w_140_5, w_140_6, w_140_7, w_140_12, w_140_13, w_140_14, k_141, l_141, a_141, wa_141, k_142, l_142, a_142, wa_142, k_143, l_143, a_143, wa_143, k_144, l_144, a_144, wa_144, pS_b, pS_up, mh_N, mh_S, mh_X, mh_alH, s_ns0 d1 i2 hx, i1n0, s_fl0, ar, nI_p2, inbT (show 51 + 3 * s + 2 < 1451 by omega) (show 1451 < 2 ^ 31 by omega), zn_nI (show 51 + 3 * s + 2 < 2 ^ 31 by omega), e6, l1, r3, a3, lp, i162_86, i162_87]
      · exact ⟨t, q, sa, n, pg, nz, ns, hs, hN', b2, sp_inv hI hs' hst, b1', m, hm, hC.1, fun j k j1 j2 hk => by
          show ∃ c, c ≤ m ∧ (upf (upf (fun j => A (28 + j)) 6 _) 3 _) j k = nI c
          rw [upf_ne _ _ (by omega), upf_ne _ _ (by omega)]
          exact hC.2 j k j1 j2 hk⟩
      · show Sm (pS (Sr S nx kp) 28 (S 28)) kp 140 0 = 0
        unfold Sm
        rw [up2_ne (by decide), up2_same]
    · have m0 : (A (28 + 6) s = 0) = False := eq_false (fun e => hst (Or.inl e))
      have m1 : (A (28 + 6) s = 1) = False := eq_false (fun e => hst (Or.inr e))
      have l1 : (A (28 + 6) s ≤ 1) = False := by
        refine eq_false (fun z => ?_)
        have b0 := r6.1
        rw [i32_le] at z b0
        have z0 : (0 : Int32).toInt = 0 := rfl
        have z1 : (1 : Int32).toInt = 1 := rfl
        rw [z0] at b0
        rw [z1] at z
        by_cases c0 : (A (28 + 6) s).toInt = 0
        · exact hst (Or.inl (Int32.toInt_inj.mp c0))
        · exact hst (Or.inr (Int32.toInt_inj.mp (by rw [z1]; omega)))
      refine je181_1 (b := 0) hG (fun d K => ?_) (fun d K => ?_)
      · simp only [in76, i76_0, i76_1, i76_2, i76_5, i76_8, i76_11, i76_12, i76_15, i76_18, i76_19, i76_20, i76_21, i76_22, i76_25, i76_26, i76_27, i76_30, i76_33, i76_34, i76_40, i76_41, i76_44, i76_45, i76_48, i76_51, i76_52, i76_55, i76_56, i76_59, i76_60, nl_i, nl_r, nl_0, nl_j, nb0, nb1, nbI, orv_s, konN_v, konN_n, konN_e, true_and, and_true, and_self, if_true, if_false, ite_true, ite_false, isR_ref, true_or, or_true, bI_T, bI_F, bI_Fb, i1z, Bool.false_eq_true, k_l0 hb, k_l1 hb, k_l2 hb, k_l3 hb, k_l4 hb, k_l5 hb, k_l6 hb, k_l7 hb, k_l8 hb, k_l9 hb, k_l10 hb, l_l1 hb, l_l2 hb, l_l3 hb, l_l4 hb, l_l5 hb, l_l6 hb, l_l7 hb, l_l8 hb, l_l9 hb, l_l10 hb, a_l1 hb, a_l2 hb, a_l3 hb, a_l4 hb, a_l5 hb, a_l6 hb, a_l7 hb, a_l8 hb, a_l9 hb, a_l10 hb, wa_l1 hb, wa_l2 hb, wa_l3 hb, wa_l4 hb, wa_l5 hb, wa_l6 hb, wa_l7 hb, wa_l8 hb, wa_l9 hb, wa_l10 hb, f_l0 hb, f_l1 hb, f_l2 hb, f_l3 hb, f_l4 hb, f_l5 hb, f_l6 hb, f_l7 hb, f_l8 hb, f_l9 hb, f_l10 hb, f_l11 hb, f_l12 hb, f_l13 hb, f_l14 hb, w_l0 hb, w_l1 hb, w_l2 hb, w_l3 hb, w_l4 hb, pS_b, pS_up, pA_1, pA_2, pA_3, pA_4, pA_5, pA_6, pA_7, pA_8, pA_9, pA_10, pU_1, pU_2, pU_3, pU_4, pU_5, pU_6, pU_7, pU_8, pU_9, pU_10, mh_N, mh_S, mh_X, mh_alH, k_0, f_0_1, hI.1.1, s_ri0 hx, b20, zn_nI (show s < 2 ^ 31 by omega), m0, m1]
      · simp only [i162_0, i162_1, i162_2, i162_5, i162_6, i162_7, i162_10, i162_13, i162_14, i162_15, i162_16, i162_19, i162_20, i162_23, i162_24, i162_27, i162_28, i162_29, i162_32, i162_35, i162_36, in162, in119, i119_0, i119_1, i119_4, i119_5, i119_8, i119_9, i119_10, i119_11, s_sheetAt, nl_i, nl_r, nl_0, nl_j, nb0, nb1, nbI, orv_s, konN_v, konN_n, konN_e, true_and, and_true, and_self, if_true, if_false, ite_true, ite_false, isR_ref, true_or, or_true, bI_T, bI_F, bI_Fb, i1z, Bool.false_eq_true, k_140, f_140_1, f_140_8, f_140_9, f_140_10, f_140_11, f_140_15, f_140_0, f_140_2, f_140_3, f_140_4, f_140_5, f_140_6, f_140_7, f_140_12, f_140_13, f_140_14, w_140_0, w_140_2, w_140_3, w_140_4, w_140_5, w_140_6, w_140_7, w_140_12, w_140_13, w_140_14, k_141, l_141, a_141, wa_141, k_142, l_142, a_142, wa_142, k_143, l_143, a_143, wa_143, k_144, l_144, a_144, wa_144, pS_b, pS_up, mh_N, mh_S, mh_X, mh_alH, s_ns0 hE.1.1 i2 hx, i1n0, nI_p2, inbT (show 51 + 3 * s + 2 < 1451 by omega) (show 1451 < 2 ^ 31 by omega), zn_nI (show 51 + 3 * s + 2 < 2 ^ 31 by omega), e6, l1, s_fl1 (show ¬ (2 : Int32) = 0 by decide)]
  · refine je181_2 (b := 0) hG (fun d K => ?_) (fun d K => ?_)
    · simp only [in76, i76_0, i76_1, i76_2, i76_5, i76_8, i76_11, i76_12, i76_15, i76_18, i76_19, i76_20, i76_21, i76_22, i76_25, i76_26, i76_27, i76_30, i76_33, i76_34, i76_40, i76_41, i76_44, i76_45, i76_48, i76_51, i76_52, i76_55, i76_56, i76_59, i76_60, nl_i, nl_r, nl_0, nl_j, nb0, nb1, nbI, orv_s, konN_v, konN_n, konN_e, true_and, and_true, and_self, if_true, if_false, ite_true, ite_false, isR_ref, true_or, or_true, bI_T, bI_F, bI_Fb, i1z, Bool.false_eq_true, k_0, f_0_1, k_l0 hb28, k_l1 hb28, k_l2 hb28, k_l3 hb28, k_l4 hb28, k_l5 hb28, k_l6 hb28, k_l7 hb28, k_l8 hb28, k_l9 hb28, k_l10 hb28, l_l1 hb28, l_l2 hb28, l_l3 hb28, l_l4 hb28, l_l5 hb28, l_l6 hb28, l_l7 hb28, l_l8 hb28, l_l9 hb28, l_l10 hb28, a_l1 hb28, a_l2 hb28, a_l3 hb28, a_l4 hb28, a_l5 hb28, a_l6 hb28, a_l7 hb28, a_l8 hb28, a_l9 hb28, a_l10 hb28, wa_l1 hb28, wa_l2 hb28, wa_l3 hb28, wa_l4 hb28, wa_l5 hb28, wa_l6 hb28, wa_l7 hb28, wa_l8 hb28, wa_l9 hb28, wa_l10 hb28, f_l0 hb28, f_l1 hb28, f_l2 hb28, f_l3 hb28, f_l4 hb28, f_l5 hb28, f_l6 hb28, f_l7 hb28, f_l8 hb28, f_l9 hb28, f_l10 hb28, f_l11 hb28, f_l12 hb28, f_l13 hb28, f_l14 hb28, w_l0 hb28, w_l1 hb28, w_l2 hb28, w_l3 hb28, w_l4 hb28, hI.1.1, s_ri1 hx, mh_alH]
    · simp only [i162_0, i162_1, i162_2, i162_5, i162_6, i162_7, i162_10, i162_13, i162_14, i162_15, i162_16, i162_19, i162_20, i162_23, i162_24, i162_27, i162_28, i162_29, i162_32, i162_35, i162_36, in162, nl_i, nl_r, nl_0, nl_j, nb0, nb1, nbI, orv_s, konN_v, konN_n, konN_e, true_and, and_true, and_self, if_true, if_false, ite_true, ite_false, isR_ref, true_or, or_true, bI_T, bI_F, bI_Fb, i1z, Bool.false_eq_true, k_140, f_140_1, f_140_8, f_140_9, f_140_10, f_140_11, f_140_15, f_140_0, f_140_2, f_140_3, f_140_4, f_140_5, f_140_6, f_140_7, f_140_12, f_140_13, f_140_14, w_140_0, w_140_2, w_140_3, w_140_4, w_140_5, w_140_6, w_140_7, w_140_12, w_140_13, w_140_14, k_141, l_141, a_141, wa_141, k_142, l_142, a_142, wa_142, k_143, l_143, a_143, wa_143, k_144, l_144, a_144, wa_144, pS_b, pS_up, mh_N, mh_S, mh_X, mh_alH, s_ns1 hE.1.1 i2 hx, i1n0]
end SC
