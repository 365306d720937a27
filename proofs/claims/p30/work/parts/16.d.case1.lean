/-! THE LAW'S LOOP: a new correction -/
section CSX
variable {T : Nat → Bool} {J : Nat → Nat → Int64} {B W : Nat → Prop} {l nz r bf s t m lp : Nat} {q : Nat → Int32} {sa : Nat → Nat → Int32} {pg : Nat → Int32} {tv : Value} {g g' : AH} {U U' S S' A A' : Nat → Nat → Int32} {G G' : Nat → Nat} {D D' : Nat → Nat → Nat} {ns ns' nx kp nx' kp' ck ck' i j : Nat} {p p' f f' : Nat → Int32} {a a' : Nat → Nat → Int32} {l2 l4 l8 l9 l13 l14 l15 l16 l17 l18 l19 l20 l21 l22 l23 l24 : Option Value} {w : ULt}
theorem y_rng : ∀ y, y < 103 → (1 ≤ y ∧ y ≤ 101 → ((-50 : Int32) ≤ nI y - 51 ∧ nI y - 51 ≤ (50 : Int32)) ∧ ¬ nI y - 51 ≤ (-51 : Int32) ∧ ¬ (51 : Int32) ≤ nI y - 51) ∧ (¬ (1 ≤ y ∧ y ≤ 101) → ¬ ((-50 : Int32) ≤ nI y - 51 ∧ nI y - 51 ≤ (50 : Int32)) ∧ (nI y - 51 ≤ (-51 : Int32) ∨ (¬ nI y - 51 ≤ (-51 : Int32) ∧ (51 : Int32) ≤ nI y - 51))) := by decide +kernel
theorem t_rng : ∀ k, k < 20 → (1 ≤ k ∧ k ≤ 18 → ((2 : Int32) ≤ nI (1 + k) ∧ nI (1 + k) ≤ (19 : Int32)) ∧ ¬ nI (1 + k) ≤ (1 : Int32) ∧ ¬ (20 : Int32) ≤ nI (1 + k)) ∧ (¬ (1 ≤ k ∧ k ≤ 18) → ¬ ((2 : Int32) ≤ nI (1 + k) ∧ nI (1 + k) ≤ (19 : Int32)) ∧ (nI (1 + k) ≤ (1 : Int32) ∨ (¬ nI (1 + k) ≤ (1 : Int32) ∧ (20 : Int32) ≤ nI (1 + k)))) := by decide +kernel
theorem s_case1 (x : LWd T J B l nz r bf s t m q sa pg tv g U S A G D ns p nx kp ck) : ∃ (g' : AH) (U' S' A' : Nat → Nat → Int32) (G' : Nat → Nat) (D' : Nat → Nat → Nat) (ns' : Nat) (p' : Nat → Int32) (nx' kp' ck' : Nat) (b e : Int32) (m13 m14 m15 m16 m17 m18 m19 m20 m21 m22 m23 m24 : Option Value), STP T l nz r g S A G D ns nx kp ck g' S' A' G' D' ns' nx' kp' ck' b ∧ LWd T J B l nz r bf s t m q sa pg tv g' U' S' A' G' D' ns' p' nx' kp' ck' ∧ ∀ d Q, Es (d + 30) 142 426 [some scrV, some (.int 1), l2, some (.ref 0), l4, some (.ref r), some (.ref l), some (.ref bf), l8, l9, some (.ref lp), some (.int 1), some (.int (-2000000098)), l13, l14, l15, l16, l17, l18, l19, l20, l21, l22, l23, l24] [] g Q = Es (d + 30) 142 925 [some scrV, some (.int 1), l2, some (.ref 0), l4, some (.ref r), some (.ref l), some (.ref bf), l8, l9, some (.ref lp), some (.int b), some (.int e), m13, m14, m15, m16, m17, m18, m19, m20, m21, m22, m23, m24] [] g' Q := by
  obtain ⟨k, y0, h, hk1, hy0, y, mid⟩ := rnd_1 (l := l) (lp := lp) (bf := bf) (l2 := l2) (l4 := l4) (l8 := l8) (l9 := l9) (l13 := l13) (l14 := l14) (l15 := l15) (l16 := l16) (l17 := l17) (l18 := l18) (l19 := l19) (l20 := l20) (l21 := l21) (l22 := l22) (l23 := l23) (l24 := l24) x.1.1.2.1
  have x0 := x.rnd y
  obtain ⟨xB, xL, xc, xz⟩ := id x0
  have xF := xB.1.1
  have hs := xB.1.2.2.1
  have g28 := xB.1.2.2.2
  have hR := xL.1
  have hI := xL.2.2.2.1
  have n6 := xL.2.2.2.2.2.1.2
  have q0 := xL.2.2.2.2.2.1.1
  have n20 := hI.1.2.1
  have i2 : S 28 2 = nI ns := hI.1.1
  have hn1 := xB.2.2.1
  have hn2 := xB.2.2.2.1
  have hn3 := xB.2.2.2.2.1
  have hn4 := xB.2.2.2.2.2.1
  have k0 : hk h 0 = 6 := by rw [xF.1]; exact k_0
  rw [← g28] at hs
  have q00 : 0 < q 0 := by rw [q0, show (0 : Int32) = nI 0 from rfl, lt_nI (by omega) (by omega)]; exact xz
  have tr := t_rng k hk1
  have yr := y_rng y0 hy0
  by_cases h1 : 1 ≤ k ∧ k ≤ 18
  · obtain ⟨t1, t2, t3⟩ := tr.1 h1
    by_cases h2 : 1 ≤ y0 ∧ y0 ≤ 101
    · obtain ⟨v1, v2, v3⟩ := yr.1 h2
      have k20 : 1 + k < 20 := by omega
      obtain ⟨sx, hL1⟩ := s_lcorr xL k20 v1
      have xb := xB.lw sx
      have xF1 := xb.1.1
      have hs1 := xb.1.2.2.1
      rw [← g28] at hs1
      have e := fun d K => c_setCorr (d := d) (U := U) (S := S) (A := A) (J := J) (K := K) (y := nI y0 - 51) hs1 q00 t1 k20 v1 hn1 hn2 hn3 hn4
      simp only [← xF1.1] at e
      have i20 : inb (nI (1 + k)) 20 = True := inbT k20 (by omega)
      have zz : zn (nI (1 + k)) = 1 + k := zn_nI (by omega)
      refine ⟨MH (wA h (D 3 (1 + k)) (upd (hA h (D 3 (1 + k))) 3 (nI y0 - 51))) T (U) (pS (Sr S nx kp) 28 (S 28)) (pA (Ar A nx) 28 (upf (fun j => A (28 + j)) 10 (upd (A (28 + 10)) (1 + k) (nI y0 - 51)))) J (Gr G nx), U, pS (Sr S nx kp) 28 (S 28), pA (Ar A nx) 28 (upf (fun j => A (28 + j)) 10 (upd (A (28 + 10)) (1 + k) (nI y0 - 51))), Gr G nx, D, ns, p, (nx + 1) % 8, min (kp + 1) 8, ck, 1, A (28 + 10) (1 + k), l13, l14, nl l15, some (.int (nI (1 + k))), some (.int (nI y0 - 51)), l18, l19, l20, l21, l22, l23, l24, ?_, LWd.push xb hL1 ?_ x0.2.2.2, fun d Q => ?_⟩
      · exact stp_1 xb y sx (by omega) (fun i hi => Or.inl hi) (by omega)
      · exact xc
      · rw [mid]
        simp only [e142_449, e142_451, e142_452, e142_455, e142_457, e142_459, e142_462, e142_464, e142_466, e142_469, e142_471, e142_473, e142_476, e142_477, e142_480, e142_481, e142_483, e142_485, e142_488, e142_490, e142_493, e142_495, e142_496, e142_497, e142_498, e142_500, e142_502, e142_505, e142_507, e142_508, e142_509, e142_511, e142_512, e142_513, e142_515, e142_517, e142_520, e142_522, e142_525, e142_526, e142_529, e142_530, e142_531, nl_i, nl_r, nl_0, nl_j, nb0, nb1, nbI, orv_s, konN_v, konN_n, konN_e, true_and, and_true, and_self, if_true, if_false, ite_true, ite_false, isR_ref, true_or, or_true, isR_null, rg10, rg11, rg12, rg13, rg14, rg15, rg16, rh13, rh14, rh15, rh16, bI_T, bI_F, bI_Fb, i1z, Bool.false_eq_true, ksN_v, ksN_n, nl_scr, lc_k hR, lc_f0 hR, lc_f1 hR, lc_f2 hR, lc_f4 hR, lc_f5 hR, lc_f6 hR, lc_f7 hR, lc_f8 hR, lc_f9 hR, lc_k0 hR, lc_l0 hR, lc_k1 hR, lc_l1 hR, lc_k2 hR, lc_l2 hR, lc_k3 hR, lc_l3 hR, lc_k4 hR, lc_l4 hR, lw_R hR k20, lw_k hR k20, lw_l hR k20, lw_0 hR k20, lw_1 hR k20, lw_2 hR k20, lw_3 hR k20, ib04, ib14, ib24, ib34, ib05, ib15, ib25, ib35, ib45, zn_0, zn_1, zn_2, zn_3, zn_4, orv_s, i20, zz, t2, t3, v2, v3, e, i1n0]
    · obtain ⟨v1, v2⟩ := yr.2 h2
      have e := fun d K => c_setCorrB (d := d) (h := h) (T := T) (U := U) (S := S) (A := A) (J := J) (G := G) (K := K) t1 v1
      simp only [← xF.1, xF.ho] at e
      refine ⟨alH h, U, S, A, G, D, ns, p, nx, kp, ck, 0, -2000000098, l13, l14, nl l15, some (.int (nI (1 + k))), some (.int (nI y0 - 51)), l18, l19, l20, l21, l22, l23, l24, stp_0 y, x0.hole, fun d Q => ?_⟩
      rw [mid]
      rcases v2 with v2 | ⟨v2, v3⟩
      · simp only [e142_449, e142_451, e142_452, e142_455, e142_457, e142_459, e142_462, e142_464, e142_466, e142_469, e142_471, e142_473, e142_476, e142_477, e142_480, e142_481, e142_483, e142_485, e142_488, e142_490, e142_493, e142_495, e142_496, e142_497, e142_498, e142_500, e142_502, e142_505, e142_507, e142_508, e142_509, e142_511, e142_512, e142_513, e142_515, e142_517, e142_520, e142_522, e142_525, e142_526, e142_529, e142_530, e142_531, nl_i, nl_r, nl_0, nl_j, nb0, nb1, nbI, orv_s, konN_v, konN_n, konN_e, true_and, and_true, and_self, if_true, if_false, ite_true, ite_false, isR_ref, true_or, or_true, isR_null, rg10, rg11, rg12, rg13, rg14, rg15, rg16, rh13, rh14, rh15, rh16, bI_T, bI_F, bI_Fb, i1z, Bool.false_eq_true, ksN_v, ksN_n, nl_scr, t2, t3, v2, e, i1n0]
      · simp only [e142_449, e142_451, e142_452, e142_455, e142_457, e142_459, e142_462, e142_464, e142_466, e142_469, e142_471, e142_473, e142_476, e142_477, e142_480, e142_481, e142_483, e142_485, e142_488, e142_490, e142_493, e142_495, e142_496, e142_497, e142_498, e142_500, e142_502, e142_505, e142_507, e142_508, e142_509, e142_511, e142_512, e142_513, e142_515, e142_517, e142_520, e142_522, e142_525, e142_526, e142_529, e142_530, e142_531, nl_i, nl_r, nl_0, nl_j, nb0, nb1, nbI, orv_s, konN_v, konN_n, konN_e, true_and, and_true, and_self, if_true, if_false, ite_true, ite_false, isR_ref, true_or, or_true, isR_null, rg10, rg11, rg12, rg13, rg14, rg15, rg16, rh13, rh14, rh15, rh16, bI_T, bI_F, bI_Fb, i1z, Bool.false_eq_true, ksN_v, ksN_n, nl_scr, t2, t3, v2, v3, e, i1n0]
  · obtain ⟨t1, t2⟩ := tr.2 h1
    have e := fun d K => c_setCorrA (d := d) (h := h) (T := T) (U := U) (S := S) (A := A) (J := J) (G := G) (K := K) (y := nI y0 - 51) t1
    simp only [← xF.1, xF.ho] at e
    refine ⟨alH h, U, S, A, G, D, ns, p, nx, kp, ck, 0, -2000000098, l13, l14, nl l15, some (.int (nI (1 + k))), some (.int (nI y0 - 51)), l18, l19, l20, l21, l22, l23, l24, stp_0 y, x0.hole, fun d Q => ?_⟩
    rw [mid]
    rcases t2 with t2 | ⟨t2, t3⟩
    · simp only [e142_449, e142_451, e142_452, e142_455, e142_457, e142_459, e142_462, e142_464, e142_466, e142_469, e142_471, e142_473, e142_476, e142_477, e142_480, e142_481, e142_483, e142_485, e142_488, e142_490, e142_493, e142_495, e142_496, e142_497, e142_498, e142_500, e142_502, e142_505, e142_507, e142_508, e142_509, e142_511, e142_512, e142_513, e142_515, e142_517, e142_520, e142_522, e142_525, e142_526, e142_529, e142_530, e142_531, nl_i, nl_r, nl_0, nl_j, nb0, nb1, nbI, orv_s, konN_v, konN_n, konN_e, true_and, and_true, and_self, if_true, if_false, ite_true, ite_false, isR_ref, true_or, or_true, isR_null, rg10, rg11, rg12, rg13, rg14, rg15, rg16, rh13, rh14, rh15, rh16, bI_T, bI_F, bI_Fb, i1z, Bool.false_eq_true, ksN_v, ksN_n, nl_scr, t2, e, i1n0]
    · simp only [e142_449, e142_451, e142_452, e142_455, e142_457, e142_459, e142_462, e142_464, e142_466, e142_469, e142_471, e142_473, e142_476, e142_477, e142_480, e142_481, e142_483, e142_485, e142_488, e142_490, e142_493, e142_495, e142_496, e142_497, e142_498, e142_500, e142_502, e142_505, e142_507, e142_508, e142_509, e142_511, e142_512, e142_513, e142_515, e142_517, e142_520, e142_522, e142_525, e142_526, e142_529, e142_530, e142_531, nl_i, nl_r, nl_0, nl_j, nb0, nb1, nbI, orv_s, konN_v, konN_n, konN_e, true_and, and_true, and_self, if_true, if_false, ite_true, ite_false, isR_ref, true_or, or_true, isR_null, rg10, rg11, rg12, rg13, rg14, rg15, rg16, rh13, rh14, rh15, rh16, bI_T, bI_F, bI_Fb, i1z, Bool.false_eq_true, ksN_v, ksN_n, nl_scr, t2, t3, e, i1n0]
end CSX
