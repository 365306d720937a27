/-! THE LAW'S LOOP: the line runs -/
section CSX
variable {T : Nat → Bool} {J : Nat → Nat → Int64} {B W : Nat → Prop} {l nz r bf s t m lp : Nat} {q : Nat → Int32} {sa : Nat → Nat → Int32} {pg : Nat → Int32} {tv : Value} {g g' : AH} {U U' S S' A A' : Nat → Nat → Int32} {G G' : Nat → Nat} {D D' : Nat → Nat → Nat} {ns ns' nx kp nx' kp' ck ck' i j : Nat} {p p' f f' : Nat → Int32} {a a' : Nat → Nat → Int32} {l2 l4 l8 l9 l13 l14 l15 l16 l17 l18 l19 l20 l21 l22 l23 l24 : Option Value} {w : ULt}
theorem s_ticks {N : Nat} {hd : Int32} (hN6 : N ≤ 60) (h0 : 0 < nz) : ∀ j k (g : AH) (v : ULt) (p : Nat → Int32), k + j = N → LLn g B l D nz ns q sa tv pg m v.2.1 v.2.2 p → ∃ g' p', Sx (Aw l D nz ns) (18 * j) g g' ∧ LLn g' B l D nz ns q sa tv pg m (rnF sa q pg m j v).2.1 (rnF sa q pg m j v).2.2 p' ∧ ∀ d Q, Es (d + 30) 142 869 [some scrV, some (.int 1), l2, some (.ref 0), l4, some (.ref r), some (.ref l), some (.ref bf), l8, l9, some (.ref lp), some (.int 1), some (.int (-2000000098)), l13, l14, l15, l16, l17, l18, l19, l20, l21, some (.int (nI N)), some (.int hd), some (.int (nI k))] [] g Q = Es (d + 30) 142 892 [some scrV, some (.int 1), l2, some (.ref 0), l4, some (.ref r), some (.ref l), some (.ref bf), l8, l9, some (.ref lp), some (.int 1), some (.int (-2000000098)), l13, l14, l15, l16, l17, l18, l19, l20, l21, some (.int (nI N)), some (.int hd), some (.int (nI N))] [] g' Q
  | 0, k, g, v, p, hk1, hL => by
    refine ⟨g, p, Sx.rf, hL, fun d Q => ?_⟩
    have c : (nI N ≤ nI k) = True := eq_true (by rw [show k = N by omega]; exact Int32.le_refl _)
    rw [e142_869]
    simp only [e142_871, e142_873, e142_876, e142_878, e142_881, e142_883, e142_886, e142_889, nl_i, nl_r, nl_0, nl_j, nb0, nb1, nbI, orv_s, konN_v, konN_n, konN_e, true_and, and_true, and_self, if_true, if_false, ite_true, ite_false, isR_ref, true_or, or_true, isR_null, rg10, rg11, rg12, rg13, rg14, rg15, rg16, rh13, rh14, rh15, rh16, bI_T, bI_F, bI_Fb, i1z, Bool.false_eq_true, ksN_v, ksN_n, nl_scr, c]
    rw [show k = N by omega]
  | j + 1, k, g, v, p, hk1, hL => by
    have c : (nI N ≤ nI k) = False := eq_false (fun z => by
      have := (nI_leI (a := N) (b := k) (by omega) (by omega)).mp z
      omega)
    obtain ⟨g1, p1, s1, L1, e1⟩ := s_ltick (stk := v.1) hL h0
    obtain ⟨g2, p2, s2, L2, e2⟩ := s_ticks hN6 h0 j (k + 1) g1 (tickL sa q pg m v) p1 (by omega) L1
    refine ⟨g2, p2, (s1.tr s2).mo (fun _ _ z => z) (by omega), L2, fun d Q => ?_⟩
    have e1' := fun d K => e1 d K
    have kl : hk g l = 7 := lc_k hL.1
    have i1 : nI k + 1 = nI (k + 1) := nI_add k 1
    rw [e142_869]
    simp only [e142_871, e142_873, e142_876, e142_878, e142_881, e142_883, e142_886, e142_889, nl_i, nl_r, nl_0, nl_j, nb0, nb1, nbI, orv_s, konN_v, konN_n, konN_e, true_and, and_true, and_self, if_true, if_false, ite_true, ite_false, isR_ref, true_or, or_true, isR_null, rg10, rg11, rg12, rg13, rg14, rg15, rg16, rh13, rh14, rh15, rh16, bI_T, bI_F, bI_Fb, i1z, Bool.false_eq_true, ksN_v, ksN_n, nl_scr, c, kl, e1', i1, i1n0]
    exact e2 d Q
theorem s_case4 (x : LWd T J B l nz r bf s t m q sa pg tv g U S A G D ns p nx kp ck) (hck : ck + 60 ≤ 100000) : ∃ (g' : AH) (U' S' A' : Nat → Nat → Int32) (G' : Nat → Nat) (D' : Nat → Nat → Nat) (ns' : Nat) (p' : Nat → Int32) (nx' kp' ck' : Nat) (b e : Int32) (m13 m14 m15 m16 m17 m18 m19 m20 m21 m22 m23 m24 : Option Value), STP T l nz r g S A G D ns nx kp ck g' S' A' G' D' ns' nx' kp' ck' b ∧ LWd T J B l nz r bf s t m q sa pg tv g' U' S' A' G' D' ns' p' nx' kp' ck' ∧ ∀ d Q, Es (d + 30) 142 804 [some scrV, some (.int 1), l2, some (.ref 0), l4, some (.ref r), some (.ref l), some (.ref bf), l8, l9, some (.ref lp), some (.int 1), some (.int (-2000000098)), l13, l14, l15, l16, l17, l18, l19, l20, l21, l22, l23, l24] [] g Q = Es (d + 30) 142 925 [some scrV, some (.int 1), l2, some (.ref 0), l4, some (.ref r), some (.ref l), some (.ref bf), l8, l9, some (.ref lp), some (.int b), some (.int e), m13, m14, m15, m16, m17, m18, m19, m20, m21, m22, m23, m24] [] g' Q := by
  obtain ⟨N, h, hN6, y, mid⟩ := rnd_4 (l := l) (lp := lp) (bf := bf) (l2 := l2) (l4 := l4) (l8 := l8) (l9 := l9) (l13 := l13) (l14 := l14) (l15 := l15) (l16 := l16) (l17 := l17) (l18 := l18) (l19 := l19) (l20 := l20) (l21 := l21) (l22 := l22) (l23 := l23) (l24 := l24) x.1.1.2.1
  have x0 := x.rnd y
  obtain ⟨xB, xL, xc, xz⟩ := id x0
  have xF := xB.1.1
  have hs := xB.1.2.2.1
  have g28 := xB.1.2.2.2
  have hR := xL.1
  have hI := xL.2.2.2.1
  have n6 := xL.2.2.2.2.2.1.2
  have q0 := xL.2.2.2.2.2.1.1
  have n20 := hI.1.2.1
  have i2 : S 28 2 = nI ns := hI.1.1
  have hn1 := xB.2.2.1
  have hn2 := xB.2.2.2.1
  have hn3 := xB.2.2.2.2.1
  have hn4 := xB.2.2.2.2.2.1
  have k0 : hk h 0 = 6 := by rw [xF.1]; exact k_0
  rw [← g28] at hs
  have q00 : 0 < q 0 := by rw [q0, show (0 : Int32) = nI 0 from rfl, lt_nI (by omega) (by omega)]; exact xz
  have kl : hk h l = 7 := lc_k hR
  have lc := fun d K => s_lcount (d := d) (x := 3) (K := K) hR n20
  rcases hN6 with h1 | h1
  · have hy : ¬ (1 ≤ nI N ∧ nI N ≤ 60) := by rw [h1]; decide
    have c1 : ((61 : Int32) ≤ nI N) = True := by rw [h1]; exact eq_true (by decide)
    have c2 : (nI N ≤ 0) = False := by rw [h1]; exact eq_false (by decide)
    have e := fun d K => c_runA (d := d) (h := h) (T := T) (U := U) (S := S) (A := A) (J := J) (G := G) (K := K) hy
    simp only [← xF.1, xF.ho] at e
    refine ⟨alH h, U, S, A, G, D, ns, p, nx, kp, ck, 0, -2000000098, l13, l14, l15, l16, l17, l18, l19, l20, nl l21, some (.int (nI N)), some (.int (cnt (A (28 + 6)) 3 ns)), some (.int 0), stp_0 y, x0.hole, fun d Q => ?_⟩
    rw [mid]
    simp only [e142_844, e142_846, e142_848, e142_851, e142_852, e142_855, e142_856, e142_858, e142_860, e142_861, e142_864, e142_866, e142_867, nl_i, nl_r, nl_0, nl_j, nb0, nb1, nbI, orv_s, konN_v, konN_n, konN_e, true_and, and_true, and_self, if_true, if_false, ite_true, ite_false, isR_ref, true_or, or_true, isR_null, rg10, rg11, rg12, rg13, rg14, rg15, rg16, rh13, rh14, rh15, rh16, bI_T, bI_F, bI_Fb, i1z, Bool.false_eq_true, ksN_v, ksN_n, nl_scr, kl, lc, c1]
    rw [e142_869]
    simp only [e142_871, e142_873, e142_876, e142_878, e142_881, e142_883, e142_886, e142_889, e142_892, e142_894, e142_897, e142_899, e142_900, e142_903, e142_905, e142_906, e142_908, e142_909, e142_911, e142_914, e142_916, e142_919, e142_920, e142_923, e142_924, nl_i, nl_r, nl_0, nl_j, nb0, nb1, nbI, orv_s, konN_v, konN_n, konN_e, true_and, and_true, and_self, if_true, if_false, ite_true, ite_false, isR_ref, true_or, or_true, isR_null, rg10, rg11, rg12, rg13, rg14, rg15, rg16, rh13, rh14, rh15, rh16, bI_T, bI_F, bI_Fb, i1z, Bool.false_eq_true, ksN_v, ksN_n, nl_scr, c2, e, i1n0]
  · have hy : 1 ≤ nI N ∧ nI N ≤ 60 := by
      refine ⟨?_, ?_⟩
      · rw [show (1 : Int32) = nI 1 from rfl, nI_leI (by omega) (by omega)]; omega
      · rw [show (60 : Int32) = nI 60 from rfl, nI_leI (by omega) (by omega)]; omega
    have c1 : ((61 : Int32) ≤ nI N) = False := eq_false (fun z => by
      have := (nI_leI (a := 61) (b := N) (by omega) (by omega)).mp z
      omega)
    obtain ⟨h1v, p1, sx, hL1, ev⟩ := s_ticks (hd := cnt (A (28 + 6)) 3 ns) (N := N) (lp := lp) (bf := bf) (l2 := l2) (l4 := l4) (l8 := l8) (l9 := l9) (l13 := l13) (l14 := l14) (l15 := l15) (l16 := l16) (l17 := l17) (l18 := l18) (l19 := l19) (l20 := l20) (l21 := nl l21) (r := r) (by omega) xz N 0 h (U (t + 2), S 28, fun j => A (28 + j)) p (by omega) xL
    generalize hR1 : rnF sa q pg m N (U (t + 2), S 28, fun j => A (28 + j)) = R at hL1
    have xb := xB.lw sx
    have xF1 := xb.1.1
    have hs1 := xb.1.2.2.1
    rw [← g28] at hs1
    have e := fun d K => c_run (d := d) (h := h1v) (U := U) (S := S) (A := A) (J := J) (K := K) hs1 q00 hy h1.2 xc hck i2 n20 hn1 hn2 hn3 hn4 hR1
    simp only [← xF1.1] at e
    have lc1 := fun d K => s_lcount (d := d) (x := 3) (K := K) hL1.1 n20
    have kl1 : hk h1v l = 7 := lc_k hL1.1
    rw [nI_0] at ev
    refine ⟨MH (h1v) T (upf U (t + 2) R.1) (pS (Sr S nx kp) 28 (R.2.1)) (pA (Ar A nx) 28 (R.2.2)) J (Gr G nx), upf U (t + 2) R.1, pS (Sr S nx kp) 28 (R.2.1), pA (Ar A nx) 28 (R.2.2), Gr G nx, D, ns, p1, (nx + 1) % 8, min (kp + 1) 8, ck + N, 1, cnt (R.2.2 6) 3 ns - cnt (A (28 + 6)) 3 ns, l13, l14, l15, l16, l17, l18, l19, l20, nl l21, some (.int (nI N)), some (.int (cnt (A (28 + 6)) 3 ns)), some (.int (nI N)), ?_, LWd.push xb hL1 ?_ x0.2.2.2, fun d Q => ?_⟩
    · exact stp_1 xb y sx (by omega) (fun i hi => Or.inl hi) (by omega)
    · rw [← hR1]
      exact rn_1 N _ xc
    · rw [mid]
      simp only [e142_844, e142_846, e142_848, e142_851, e142_852, e142_855, e142_856, e142_858, e142_860, e142_861, e142_864, e142_866, e142_867, nl_i, nl_r, nl_0, nl_j, nb0, nb1, nbI, orv_s, konN_v, konN_n, konN_e, true_and, and_true, and_self, if_true, if_false, ite_true, ite_false, isR_ref, true_or, or_true, isR_null, rg10, rg11, rg12, rg13, rg14, rg15, rg16, rh13, rh14, rh15, rh16, bI_T, bI_F, bI_Fb, i1z, Bool.false_eq_true, ksN_v, ksN_n, nl_scr, kl, lc, c1]
      rw [ev]
      simp only [e142_892, e142_894, e142_897, e142_899, e142_900, e142_903, e142_905, e142_906, e142_908, e142_909, e142_911, e142_914, e142_916, e142_919, e142_920, e142_923, e142_924, nl_i, nl_r, nl_0, nl_j, nb0, nb1, nbI, orv_s, konN_v, konN_n, konN_e, true_and, and_true, and_self, if_true, if_false, ite_true, ite_false, isR_ref, true_or, or_true, isR_null, rg10, rg11, rg12, rg13, rg14, rg15, rg16, rh13, rh14, rh15, rh16, bI_T, bI_F, bI_Fb, i1z, Bool.false_eq_true, ksN_v, ksN_n, nl_scr, kl1, lc1, e, i1n0]
end CSX
