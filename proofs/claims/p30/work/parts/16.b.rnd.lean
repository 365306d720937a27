/-! THE LAW'S LOOP: its random numbers -/
section RNDS
variable {T : Nat → Bool} {J : Nat → Nat → Int64} {B W : Nat → Prop} {l nz r bf s t m lp : Nat} {q : Nat → Int32} {sa : Nat → Nat → Int32} {pg : Nat → Int32} {tv : Value} {g g' : AH} {U U' S S' A A' : Nat → Nat → Int32} {G G' : Nat → Nat} {D D' : Nat → Nat → Nat} {ns ns' nx kp nx' kp' ck ck' i j : Nat} {p p' f f' : Nat → Int32} {a a' : Nat → Nat → Int32} {l2 l4 l8 l9 l13 l14 l15 l16 l17 l18 l19 l20 l21 l22 l23 l24 : Option Value}
theorem nl_scr : nl (some scrV) = some scrV := rfl
theorem z_add (x : Int32) : x + 0 = x := Int32.add_zero x
theorem s_bel9 (M : Nat) (v : Int32) (hM : nI M = v) (x : RN g r) (h1 : 1 ≤ M) (h2 : M < 100000) : ∃ k h, k < M ∧ ((Sm (fun i => i = r) g h ∧ hN h = hN g ∧ hS h = hS g) ∧ RN h r) ∧ hk g r = 9 ∧ ∀ d K, EvM d 102 [.ref r, .int v] g K = K (.inl (some (.int (nI k)))) h := by
  obtain ⟨k, h, h3, h4, h5, h6⟩ := s_below (m := M) x h1 (by omega)
  rw [hM] at h6
  exact ⟨k, h, h3, ⟨h4, h5⟩, x.1.1, h6⟩
theorem rnd_tr {h h' : AH} (x : (Sm (fun i => i = r) g h ∧ hN h = hN g ∧ hS h = hS g) ∧ RN h r) (y : (Sm (fun i => i = r) h h' ∧ hN h' = hN h ∧ hS h' = hS h) ∧ RN h' r) : (Sm (fun i => i = r) g h' ∧ hN h' = hN g ∧ hS h' = hS g) ∧ RN h' r :=
  ⟨⟨x.1.1.tr y.1.1, y.1.2.1.trans x.1.2.1, y.1.2.2.trans x.1.2.2⟩, y.2⟩
theorem rnd_w (x : RN g r) : ∃ k h, k < 10 ∧ ((Sm (fun i => i = r) g h ∧ hN h = hN g ∧ hS h = hS g) ∧ RN h r) ∧ ∀ d Q, Es (d + 30) 142 225 [some scrV, some (.int 1), l2, some (.ref 0), l4, some (.ref r), some (.ref l), some (.ref bf), l8, l9, some (.ref lp), some (.int 1), some (.int (-2000000098)), l13, l14, l15, l16, l17, l18, l19, l20, l21, l22, l23, l24] [] g Q = Es (d + 30) 142 232 [some scrV, some (.int 1), l2, some (.ref 0), l4, some (.ref r), some (.ref l), some (.ref bf), l8, l9, some (.ref lp), some (.int 1), some (.int (-2000000098)), l13, l14, l15, l16, l17, l18, l19, l20, l21, l22, l23, l24] [.int (nI k)] h Q := by
  obtain ⟨k, h, h1, h2, h3, h4⟩ := s_bel9 10 10 rfl x (by omega) (by omega)
  refine ⟨k, h, h1, h2, fun d Q => ?_⟩
  simp only [e142_225, e142_227, e142_229, nl_i, nl_r, nl_0, nl_j, nb0, nb1, nbI, orv_s, konN_v, konN_n, konN_e, true_and, and_true, and_self, if_true, if_false, ite_true, ite_false, isR_ref, true_or, or_true, isR_null, rg10, rg11, rg12, rg13, rg14, rg15, rg16, rh13, rh14, rh15, rh16, bI_T, bI_F, bI_Fb, i1z, Bool.false_eq_true, ksN_v, ksN_n, h3, h4]
theorem rnd_0 (x : RN g r) (hR : LRc g B l D nz ns q sa tv f a p) (hz1 : 1 ≤ nz) (hz6 : nz ≤ 6) : ∃ z v h, z < nz + 1 ∧ (v = 99 ∨ (100 ≤ v ∧ v ≤ 900)) ∧ ((Sm (fun i => i = r) g h ∧ hN h = hN g ∧ hS h = hS g) ∧ RN h r) ∧ ∀ d Q, Es (d + 30) 142 272 [some scrV, some (.int 1), l2, some (.ref 0), l4, some (.ref r), some (.ref l), some (.ref bf), l8, l9, some (.ref lp), some (.int 1), some (.int (-2000000098)), l13, l14, l15, l16, l17, l18, l19, l20, l21, l22, l23, l24] [] g Q = Es (d + 30) 142 329 [some scrV, some (.int 1), l2, some (.ref 0), l4, some (.ref r), some (.ref l), some (.ref bf), l8, l9, some (.ref lp), some (.int 1), some (.int (-2000000098)), some (.int (nI z)), some (.int (nI v)), l15, l16, l17, l18, l19, l20, l21, l22, l23, l24] [] h Q := by
  obtain ⟨k1, g1, b1, t1, n1, e1⟩ := s_bel9 9 9 rfl x (by omega) (by omega)
  obtain ⟨c, hc, hc1, hce⟩ : ∃ c, (k1 = 0 → c = 1) ∧ c ≤ 1 ∧ (¬ k1 = 0 → c = 0) := by
    by_cases h : k1 = 0
    · exact ⟨1, fun _ => rfl, by omega, fun z => absurd h z⟩
    · exact ⟨0, fun z => absurd z h, by omega, fun _ => rfl⟩
  obtain ⟨z, g2, b2, t2, n2, e2⟩ := s_bel9 (nz + c) (nI nz + nI c) (nI_add nz c).symm t1.2 (by omega) (by omega)
  obtain ⟨k3, g3, b3, t3, n3, e3⟩ := s_bel9 9 9 rfl t2.2 (by omega) (by omega)
  have t13 := rnd_tr (rnd_tr t1 t2) t3
  have z1 : nI 1 = (1 : Int32) := rfl
  have mid : ∀ d Q, Es (d + 30) 142 272 [some scrV, some (.int 1), l2, some (.ref 0), l4, some (.ref r), some (.ref l), some (.ref bf), l8, l9, some (.ref lp), some (.int 1), some (.int (-2000000098)), l13, l14, l15, l16, l17, l18, l19, l20, l21, l22, l23, l24] [] g Q = Es (d + 30) 142 308 [some scrV, some (.int 1), l2, some (.ref 0), l4, some (.ref r), some (.ref l), some (.ref bf), l8, l9, some (.ref lp), some (.int 1), some (.int (-2000000098)), some (.int (nI z)), l14, l15, l16, l17, l18, l19, l20, l21, l22, l23, l24] [.int (nI k3)] g3 Q := fun d Q => by
    by_cases h : k1 = 0
    · have e := hc h
      subst h
      subst e
      rw [z1] at e2
      simp only [e142_272, e142_274, e142_276, e142_279, e142_280, e142_282, e142_284, e142_287, e142_290, e142_291, e142_294, e142_295, e142_296, e142_299, e142_301, e142_303, e142_305, nl_i, nl_r, nl_0, nl_j, nb0, nb1, nbI, orv_s, konN_v, konN_n, konN_e, true_and, and_true, and_self, if_true, if_false, ite_true, ite_false, isR_ref, true_or, or_true, isR_null, rg10, rg11, rg12, rg13, rg14, rg15, rg16, rh13, rh14, rh15, rh16, bI_T, bI_F, bI_Fb, i1z, Bool.false_eq_true, ksN_v, ksN_n, lc_k hR, lc_f0 hR, lc_f1 hR, lc_f2 hR, lc_f4 hR, lc_f5 hR, lc_f6 hR, lc_f7 hR, lc_f8 hR, lc_f9 hR, lc_k0 hR, lc_l0 hR, lc_k1 hR, lc_l1 hR, lc_k2 hR, lc_l2 hR, lc_k3 hR, lc_l3 hR, lc_k4 hR, lc_l4 hR, nI_0, n1, n2, n3, e1, e2, e3]
    · have e := hce h
      subst e
      rw [nI_0] at e2
      simp only [e142_272, e142_274, e142_276, e142_279, e142_280, e142_282, e142_284, e142_287, e142_290, e142_291, e142_294, e142_295, e142_296, e142_299, e142_301, e142_303, e142_305, nl_i, nl_r, nl_0, nl_j, nb0, nb1, nbI, orv_s, konN_v, konN_n, konN_e, true_and, and_true, and_self, if_true, if_false, ite_true, ite_false, isR_ref, true_or, or_true, isR_null, rg10, rg11, rg12, rg13, rg14, rg15, rg16, rh13, rh14, rh15, rh16, bI_T, bI_F, bI_Fb, i1z, Bool.false_eq_true, ksN_v, ksN_n, lc_k hR, lc_f0 hR, lc_f1 hR, lc_f2 hR, lc_f4 hR, lc_f5 hR, lc_f6 hR, lc_f7 hR, lc_f8 hR, lc_f9 hR, lc_k0 hR, lc_l0 hR, lc_k1 hR, lc_l1 hR, lc_k2 hR, lc_l2 hR, lc_k3 hR, lc_l3 hR, lc_k4 hR, lc_l4 hR, nI_nz0 h (show k1 < 2 ^ 31 by omega), n1, n2, n3, e1, e2, e3]
  by_cases h3 : k3 = 0
  · subst h3
    refine ⟨z, 99, g3, by omega, Or.inl rfl, t13, fun d Q => ?_⟩
    rw [mid]
    have y : nI 99 = (99 : Int32) := rfl
    simp only [e142_308, e142_311, e142_313, e142_316, e142_318, e142_320, e142_323, e142_326, e142_327, nl_i, nl_r, nl_0, nl_j, nb0, nb1, nbI, orv_s, konN_v, konN_n, konN_e, true_and, and_true, and_self, if_true, if_false, ite_true, ite_false, isR_ref, true_or, or_true, isR_null, rg10, rg11, rg12, rg13, rg14, rg15, rg16, rh13, rh14, rh15, rh16, bI_T, bI_F, bI_Fb, i1z, Bool.false_eq_true, ksN_v, ksN_n, nI_0, y]
  · obtain ⟨k4, g4, b4, t4, n4, e4⟩ := s_bel9 801 801 rfl t3.2 (by omega) (by omega)
    refine ⟨z, 100 + k4, g4, by omega, Or.inr ⟨by omega, by omega⟩, rnd_tr t13 t4, fun d Q => ?_⟩
    rw [mid]
    have y : (100 : Int32) + nI k4 = nI (100 + k4) := nI_add 100 k4
    simp only [e142_308, e142_311, e142_313, e142_316, e142_318, e142_320, e142_323, e142_326, e142_327, nl_i, nl_r, nl_0, nl_j, nb0, nb1, nbI, orv_s, konN_v, konN_n, konN_e, true_and, and_true, and_self, if_true, if_false, ite_true, ite_false, isR_ref, true_or, or_true, isR_null, rg10, rg11, rg12, rg13, rg14, rg15, rg16, rh13, rh14, rh15, rh16, bI_T, bI_F, bI_Fb, i1z, Bool.false_eq_true, ksN_v, ksN_n, nI_nz0 h3 (show k3 < 2 ^ 31 by omega), n4, e4, y]
theorem rnd_1 (x : RN g r) : ∃ k y h, k < 20 ∧ y < 103 ∧ ((Sm (fun i => i = r) g h ∧ hN h = hN g ∧ hS h = hS g) ∧ RN h r) ∧ ∀ d Q, Es (d + 30) 142 426 [some scrV, some (.int 1), l2, some (.ref 0), l4, some (.ref r), some (.ref l), some (.ref bf), l8, l9, some (.ref lp), some (.int 1), some (.int (-2000000098)), l13, l14, l15, l16, l17, l18, l19, l20, l21, l22, l23, l24] [] g Q = Es (d + 30) 142 449 [some scrV, some (.int 1), l2, some (.ref 0), l4, some (.ref r), some (.ref l), some (.ref bf), l8, l9, some (.ref lp), some (.int 1), some (.int (-2000000098)), l13, l14, nl l15, some (.int (nI (1 + k))), some (.int (nI y - 51)), l18, l19, l20, l21, l22, l23, l24] [] h Q := by
  obtain ⟨k1, g1, b1, t1, n1, e1⟩ := s_bel9 20 20 rfl x (by omega) (by omega)
  obtain ⟨k2, g2, b2, t2, n2, e2⟩ := s_bel9 103 103 rfl t1.2 (by omega) (by omega)
  refine ⟨k1, k2, g2, b1, b2, rnd_tr t1 t2, fun d Q => ?_⟩
  have y : (1 : Int32) + nI k1 = nI (1 + k1) := nI_add 1 k1
  simp only [e142_426, e142_427, e142_429, e142_431, e142_434, e142_435, e142_437, e142_439, e142_441, e142_444, e142_446, e142_447, nl_i, nl_r, nl_0, nl_j, nb0, nb1, nbI, orv_s, konN_v, konN_n, konN_e, true_and, and_true, and_self, if_true, if_false, ite_true, ite_false, isR_ref, true_or, or_true, isR_null, rg10, rg11, rg12, rg13, rg14, rg15, rg16, rh13, rh14, rh15, rh16, bI_T, bI_F, bI_Fb, i1z, Bool.false_eq_true, ksN_v, ksN_n, n1, n2, e1, e2, y]
theorem rnd_2 (x : RN g r) (hR : LRc g B l D nz ns q sa tv f a p) (h20 : ns ≤ 20) : ∃ k h, k < ns + 1 ∧ ((Sm (fun i => i = r) g h ∧ hN h = hN g ∧ hS h = hS g) ∧ RN h r) ∧ ∀ d Q, Es (d + 30) 142 534 [some scrV, some (.int 1), l2, some (.ref 0), l4, some (.ref r), some (.ref l), some (.ref bf), l8, l9, some (.ref lp), some (.int 1), some (.int (-2000000098)), l13, l14, l15, l16, l17, l18, l19, l20, l21, l22, l23, l24] [] g Q = Es (d + 30) 142 549 [some scrV, some (.int 1), l2, some (.ref 0), l4, some (.ref r), some (.ref l), some (.ref bf), l8, l9, some (.ref lp), some (.int 1), some (.int (-2000000098)), l13, l14, l15, l16, nl l17, some (.int (nI k)), l19, l20, l21, l22, l23, l24] [] h Q := by
  obtain ⟨k1, g1, b1, t1, n1, e1⟩ := s_bel9 (ns + 1) (nI ns + 1) (nI_add ns 1).symm x (by omega) (by omega)
  refine ⟨k1, g1, b1, t1, fun d Q => ?_⟩
  simp only [e142_534, e142_536, e142_538, e142_541, e142_542, e142_543, e142_544, e142_547, nl_i, nl_r, nl_0, nl_j, nb0, nb1, nbI, orv_s, konN_v, konN_n, konN_e, true_and, and_true, and_self, if_true, if_false, ite_true, ite_false, isR_ref, true_or, or_true, isR_null, rg10, rg11, rg12, rg13, rg14, rg15, rg16, rh13, rh14, rh15, rh16, bI_T, bI_F, bI_Fb, i1z, Bool.false_eq_true, ksN_v, ksN_n, lc_k hR, lc_f0 hR, lc_f1 hR, lc_f2 hR, lc_f4 hR, lc_f5 hR, lc_f6 hR, lc_f7 hR, lc_f8 hR, lc_f9 hR, lc_k0 hR, lc_l0 hR, lc_k1 hR, lc_l1 hR, lc_k2 hR, lc_l2 hR, lc_k3 hR, lc_l3 hR, lc_k4 hR, lc_l4 hR, n1, e1]
theorem rnd_3 (x : RN g r) : ∃ ar w h, (ar = 0 ∨ (100 ≤ ar ∧ ar ≤ 999)) ∧ (1 ≤ w ∧ w ≤ 9999) ∧ ((Sm (fun i => i = r) g h ∧ hN h = hN g ∧ hS h = hS g) ∧ RN h r) ∧ ∀ d Q, Es (d + 30) 142 660 [some scrV, some (.int 1), l2, some (.ref 0), l4, some (.ref r), some (.ref l), some (.ref bf), l8, l9, some (.ref lp), some (.int 1), some (.int (-2000000098)), l13, l14, l15, l16, l17, l18, l19, l20, l21, l22, l23, l24] [] g Q = Es (d + 30) 142 706 [some scrV, some (.int 1), l2, some (.ref 0), l4, some (.ref r), some (.ref l), some (.ref bf), l8, l9, some (.ref lp), some (.int 1), some (.int (-2000000098)), l13, l14, l15, l16, l17, nl l18, some (.int (nI ar)), some (.int (nI w)), l21, l22, l23, l24] [] h Q := by
  obtain ⟨k1, g1, b1, t1, n1, e1⟩ := s_bel9 14 14 rfl x (by omega) (by omega)
  have fin : ∀ (ar : Nat) (g2 : AH), (ar = 0 ∨ (100 ≤ ar ∧ ar ≤ 999)) → ((Sm (fun i => i = r) g g2 ∧ hN g2 = hN g ∧ hS g2 = hS g) ∧ RN g2 r) → (∀ d Q, Es (d + 30) 142 660 [some scrV, some (.int 1), l2, some (.ref 0), l4, some (.ref r), some (.ref l), some (.ref bf), l8, l9, some (.ref lp), some (.int 1), some (.int (-2000000098)), l13, l14, l15, l16, l17, l18, l19, l20, l21, l22, l23, l24] [] g Q = Es (d + 30) 142 685 [some scrV, some (.int 1), l2, some (.ref 0), l4, some (.ref r), some (.ref l), some (.ref bf), l8, l9, some (.ref lp), some (.int 1), some (.int (-2000000098)), l13, l14, l15, l16, l17, l18, l19, l20, l21, l22, l23, l24] [.int (nI ar)] g2 Q) → ∃ ar w h, (ar = 0 ∨ (100 ≤ ar ∧ ar ≤ 999)) ∧ (1 ≤ w ∧ w ≤ 9999) ∧ ((Sm (fun i => i = r) g h ∧ hN h = hN g ∧ hS h = hS g) ∧ RN h r) ∧ ∀ d Q, Es (d + 30) 142 660 [some scrV, some (.int 1), l2, some (.ref 0), l4, some (.ref r), some (.ref l), some (.ref bf), l8, l9, some (.ref lp), some (.int 1), some (.int (-2000000098)), l13, l14, l15, l16, l17, l18, l19, l20, l21, l22, l23, l24] [] g Q = Es (d + 30) 142 706 [some scrV, some (.int 1), l2, some (.ref 0), l4, some (.ref r), some (.ref l), some (.ref bf), l8, l9, some (.ref lp), some (.int 1), some (.int (-2000000098)), l13, l14, l15, l16, l17, nl l18, some (.int (nI ar)), some (.int (nI w)), l21, l22, l23, l24] [] h Q := by
    intro ar g2 ha t2 mid
    obtain ⟨k3, g3, b3, t3, n3, e3⟩ := s_bel9 20 20 rfl t2.2 (by omega) (by omega)
    have dv : nI ar / 40 = nI (ar / 40) := dv_nI (m := 40) (by omega) (by omega) (by omega)
    have le : ar / 40 * (1 + k3) ≤ 24 * 20 := Nat.mul_le_mul (by omega) (by omega)
    refine ⟨ar, 1 + ar / 40 * (1 + k3), g3, ha, ⟨by omega, by omega⟩, rnd_tr t2 t3, fun d Q => ?_⟩
    rw [mid]
    have y : (1 : Int32) + nI k3 = nI (1 + k3) := nI_add 1 k3
    have y2 : (1 : Int32) + nI (ar / 40 * (1 + k3)) = nI (1 + ar / 40 * (1 + k3)) := nI_add 1 _
    have n40 : ((40 : Int32) = 0) = False := eq_false (by decide)
    simp only [e142_685, e142_687, e142_688, e142_690, e142_692, e142_693, e142_694, e142_696, e142_698, e142_701, e142_702, e142_703, e142_704, nl_i, nl_r, nl_0, nl_j, nb0, nb1, nbI, orv_s, konN_v, konN_n, konN_e, true_and, and_true, and_self, if_true, if_false, ite_true, ite_false, isR_ref, true_or, or_true, isR_null, rg10, rg11, rg12, rg13, rg14, rg15, rg16, rh13, rh14, rh15, rh16, bI_T, bI_F, bI_Fb, i1z, Bool.false_eq_true, ksN_v, ksN_n, n3, e3, dv, y, nI_mulN, y2, n40, not_false_eq_true]
  by_cases h : k1 = 0
  · subst h
    refine fin 0 g1 (Or.inl rfl) t1 (fun d Q => ?_)
    simp only [e142_660, e142_662, e142_664, e142_667, e142_670, e142_671, e142_674, e142_676, e142_678, e142_681, e142_684, nl_i, nl_r, nl_0, nl_j, nb0, nb1, nbI, orv_s, konN_v, konN_n, konN_e, true_and, and_true, and_self, if_true, if_false, ite_true, ite_false, isR_ref, true_or, or_true, isR_null, rg10, rg11, rg12, rg13, rg14, rg15, rg16, rh13, rh14, rh15, rh16, bI_T, bI_F, bI_Fb, i1z, Bool.false_eq_true, ksN_v, ksN_n, nI_0, n1, e1]
  · obtain ⟨k2, g2, b2, t2, n2, e2⟩ := s_bel9 900 900 rfl t1.2 (by omega) (by omega)
    refine fin (100 + k2) g2 (Or.inr ⟨by omega, by omega⟩) (rnd_tr t1 t2) (fun d Q => ?_)
    have y : (100 : Int32) + nI k2 = nI (100 + k2) := nI_add 100 k2
    simp only [e142_660, e142_662, e142_664, e142_667, e142_670, e142_671, e142_674, e142_676, e142_678, e142_681, e142_684, nl_i, nl_r, nl_0, nl_j, nb0, nb1, nbI, orv_s, konN_v, konN_n, konN_e, true_and, and_true, and_self, if_true, if_false, ite_true, ite_false, isR_ref, true_or, or_true, isR_null, rg10, rg11, rg12, rg13, rg14, rg15, rg16, rh13, rh14, rh15, rh16, bI_T, bI_F, bI_Fb, i1z, Bool.false_eq_true, ksN_v, ksN_n, nI_nz0 h (show k1 < 2 ^ 31 by omega), n1, n2, e1, e2, y]
theorem rnd_4 (x : RN g r) : ∃ N h, (N = 61 ∨ (1 ≤ N ∧ N ≤ 60)) ∧ ((Sm (fun i => i = r) g h ∧ hN h = hN g ∧ hS h = hS g) ∧ RN h r) ∧ ∀ d Q, Es (d + 30) 142 804 [some scrV, some (.int 1), l2, some (.ref 0), l4, some (.ref r), some (.ref l), some (.ref bf), l8, l9, some (.ref lp), some (.int 1), some (.int (-2000000098)), l13, l14, l15, l16, l17, l18, l19, l20, l21, l22, l23, l24] [] g Q = Es (d + 30) 142 844 [some scrV, some (.int 1), l2, some (.ref 0), l4, some (.ref r), some (.ref l), some (.ref bf), l8, l9, some (.ref lp), some (.int 1), some (.int (-2000000098)), l13, l14, l15, l16, l17, l18, l19, l20, nl l21, some (.int (nI N)), l23, l24] [] h Q := by
  obtain ⟨k1, g1, b1, t1, n1, e1⟩ := s_bel9 9 9 rfl x (by omega) (by omega)
  by_cases h : k1 = 0
  · subst h
    refine ⟨61, g1, Or.inl rfl, t1, fun d Q => ?_⟩
    have y : nI 61 = (61 : Int32) := rfl
    simp only [e142_804, e142_806, e142_808, e142_811, e142_814, e142_816, e142_819, e142_820, e142_822, e142_824, e142_825, e142_828, e142_831, e142_833, e142_836, e142_838, e142_841, e142_842, nl_i, nl_r, nl_0, nl_j, nb0, nb1, nbI, orv_s, konN_v, konN_n, konN_e, true_and, and_true, and_self, if_true, if_false, ite_true, ite_false, isR_ref, true_or, or_true, isR_null, rg10, rg11, rg12, rg13, rg14, rg15, rg16, rh13, rh14, rh15, rh16, bI_T, bI_F, bI_Fb, i1z, Bool.false_eq_true, ksN_v, ksN_n, nI_0, n1, e1, y]
  · obtain ⟨k2, g2, b2, t2, n2, e2⟩ := s_bel9 2 2 rfl t1.2 (by omega) (by omega)
    have nz1 := nI_nz0 h (show k1 < 2 ^ 31 by omega)
    by_cases h2 : k2 = 0
    · subst h2
      obtain ⟨k3, g3, b3, t3, n3, e3⟩ := s_bel9 60 60 rfl t2.2 (by omega) (by omega)
      refine ⟨1 + k3, g3, Or.inr ⟨by omega, by omega⟩, rnd_tr (rnd_tr t1 t2) t3, fun d Q => ?_⟩
      have y : (1 : Int32) + nI k3 = nI (1 + k3) := nI_add 1 k3
      simp only [e142_804, e142_806, e142_808, e142_811, e142_814, e142_816, e142_819, e142_820, e142_822, e142_824, e142_825, e142_828, e142_831, e142_833, e142_836, e142_838, e142_841, e142_842, nl_i, nl_r, nl_0, nl_j, nb0, nb1, nbI, orv_s, konN_v, konN_n, konN_e, true_and, and_true, and_self, if_true, if_false, ite_true, ite_false, isR_ref, true_or, or_true, isR_null, rg10, rg11, rg12, rg13, rg14, rg15, rg16, rh13, rh14, rh15, rh16, bI_T, bI_F, bI_Fb, i1z, Bool.false_eq_true, ksN_v, ksN_n, nz1, nI_0, n1, n2, n3, e1, e2, e3, y]
    · obtain ⟨k3, g3, b3, t3, n3, e3⟩ := s_bel9 9 9 rfl t2.2 (by omega) (by omega)
      refine ⟨1 + k3, g3, Or.inr ⟨by omega, by omega⟩, rnd_tr (rnd_tr t1 t2) t3, fun d Q => ?_⟩
      have y : (1 : Int32) + nI k3 = nI (1 + k3) := nI_add 1 k3
      simp only [e142_804, e142_806, e142_808, e142_811, e142_814, e142_816, e142_819, e142_820, e142_822, e142_824, e142_825, e142_828, e142_831, e142_833, e142_836, e142_838, e142_841, e142_842, nl_i, nl_r, nl_0, nl_j, nb0, nb1, nbI, orv_s, konN_v, konN_n, konN_e, true_and, and_true, and_self, if_true, if_false, ite_true, ite_false, isR_ref, true_or, or_true, isR_null, rg10, rg11, rg12, rg13, rg14, rg15, rg16, rh13, rh14, rh15, rh16, bI_T, bI_F, bI_Fb, i1z, Bool.false_eq_true, ksN_v, ksN_n, nz1, nI_nz0 h2 (show k2 < 2 ^ 31 by omega), n1, n2, n3, e1, e2, e3, y]
end RNDS
