/-! THE LAW'S LOOP: a sheet is scrapped -/
section CSX
variable {T : Nat → Bool} {J : Nat → Nat → Int64} {B W : Nat → Prop} {l nz r bf s t m lp : Nat} {q : Nat → Int32} {sa : Nat → Nat → Int32} {pg : Nat → Int32} {tv : Value} {g g' : AH} {U U' S S' A A' : Nat → Nat → Int32} {G G' : Nat → Nat} {D D' : Nat → Nat → Nat} {ns ns' nx kp nx' kp' ck ck' i j : Nat} {p p' f f' : Nat → Int32} {a a' : Nat → Nat → Int32} {l2 l4 l8 l9 l13 l14 l15 l16 l17 l18 l19 l20 l21 l22 l23 l24 : Option Value} {w : ULt}
theorem st_ge {v : Int32} (h : 0 ≤ v ∧ v ≤ 5) (h0 : ¬ v = 0) (h1 : ¬ v = 1) : (2 : Int32) ≤ v := by
  have a := h.1
  rw [i32_le] at a ⊢
  have a : (0 : Int) ≤ v.toInt := a
  show (2 : Int) ≤ v.toInt
  have e0 : ¬ v.toInt = 0 := fun z => h0 (Int32.toInt_inj.mp z)
  have e1 : ¬ v.toInt = 1 := fun z => h1 (Int32.toInt_inj.mp z)
  omega
theorem s_case2 (x : LWd T J B l nz r bf s t m q sa pg tv g U S A G D ns p nx kp ck) : ∃ (g' : AH) (U' S' A' : Nat → Nat → Int32) (G' : Nat → Nat) (D' : Nat → Nat → Nat) (ns' : Nat) (p' : Nat → Int32) (nx' kp' ck' : Nat) (b e : Int32) (m13 m14 m15 m16 m17 m18 m19 m20 m21 m22 m23 m24 : Option Value), STP T l nz r g S A G D ns nx kp ck g' S' A' G' D' ns' nx' kp' ck' b ∧ LWd T J B l nz r bf s t m q sa pg tv g' U' S' A' G' D' ns' p' nx' kp' ck' ∧ ∀ d Q, Es (d + 30) 142 534 [some scrV, some (.int 1), l2, some (.ref 0), l4, some (.ref r), some (.ref l), some (.ref bf), l8, l9, some (.ref lp), some (.int 1), some (.int (-2000000098)), l13, l14, l15, l16, l17, l18, l19, l20, l21, l22, l23, l24] [] g Q = Es (d + 30) 142 925 [some scrV, some (.int 1), l2, some (.ref 0), l4, some (.ref r), some (.ref l), some (.ref bf), l8, l9, some (.ref lp), some (.int b), some (.int e), m13, m14, m15, m16, m17, m18, m19, m20, m21, m22, m23, m24] [] g' Q := by
  obtain ⟨k, h, hk1, y, mid⟩ := rnd_2 (B := B) (D := D) (ns := ns) (q := q) (sa := sa) (tv := tv) (f := S 28) (a := fun j => A (28 + j)) (p := p) (lp := lp) (bf := bf) (l2 := l2) (l4 := l4) (l8 := l8) (l9 := l9) (l13 := l13) (l14 := l14) (l15 := l15) (l16 := l16) (l17 := l17) (l18 := l18) (l19 := l19) (l20 := l20) (l21 := l21) (l22 := l22) (l23 := l23) (l24 := l24) x.1.1.2.1 x.2.1.1 x.2.1.2.2.2.1.1.2.1
  have x0 := x.rnd y
  obtain ⟨xB, xL, xc, xz⟩ := id x0
  have xF := xB.1.1
  have hs := xB.1.2.2.1
  have g28 := xB.1.2.2.2
  have hR := xL.1
  have hI := xL.2.2.2.1
  have n6 := xL.2.2.2.2.2.1.2
  have q0 := xL.2.2.2.2.2.1.1
  have n20 := hI.1.2.1
  have i2 : S 28 2 = nI ns := hI.1.1
  have hn1 := xB.2.2.1
  have hn2 := xB.2.2.2.1
  have hn3 := xB.2.2.2.2.1
  have hn4 := xB.2.2.2.2.2.1
  have k0 : hk h 0 = 6 := by rw [xF.1]; exact k_0
  rw [← g28] at hs
  by_cases h1 : k < ns
  · have cz : (nI ns ≤ nI k) = False := eq_false (fun w => by
      have := (nI_leI (a := ns) (b := k) (by omega) (by omega)).mp w
      omega)
    have ce : (nI k = nI ns) = False := eq_false (fun w => by
      have := nI_inj (by omega) (by omega) w
      omega)
    have hx : 0 ≤ nI k ∧ nI k < S 28 2 := by
      rw [i2]
      exact ⟨nI_pos' (by omega), by rw [lt_nI (by omega) (by omega)]; exact h1⟩
    have ik : inb (nI k) ns = True := inbT h1 (by omega)
    have zz : zn (nI k) = k := zn_nI (by omega)
    have zf : zn (S 28 2) = ns := by rw [i2]; exact zn_nI (by omega)
    have zq : zn (q 0) = nz := by rw [q0]; exact zn_nI (by omega)
    have r6 : 0 ≤ A (28 + 6) k ∧ A (28 + 6) k ≤ 5 := (hI.2.2.2.2.1 k h1).2.2
    by_cases h2 : A (28 + 6) k = 0 ∨ A (28 + 6) k = 1
    · have c2 : ((2 : Int32) ≤ A (28 + 6) k) = False := by
        rcases h2 with e | e <;> rw [e] <;> exact eq_false (by decide)
      obtain ⟨h1v, sx, hL1, ev⟩ := s_lout xL h1 h2
      have xb := xB.lw sx
      have xF1 := xb.1.1
      have hs1 := xb.1.2.2.1
      rw [← g28] at hs1
      have e := fun d K => c_scrap (d := d) (h := h1v) (U := U) (S := S) (A := A) (J := J) (K := K) hs1 hx (by omega) (by rw [zf]; exact n20) h2 hn1 hn2 hn3 hn4
      rw [zq] at e
      simp only [← xF1.1] at e
      refine ⟨MH (h1v) T (U) (pS (Sr S nx kp) 28 (S 28)) (pA (Ar A nx) 28 (spoilL nz (nI k) (fun j => A (28 + j)))) J (Gr G nx), U, pS (Sr S nx kp) 28 (S 28), pA (Ar A nx) 28 (spoilL nz (nI k) (fun j => A (28 + j))), Gr G nx, D, ns, upd p k (-2), (nx + 1) % 8, min (kp + 1) 8, ck, 1, A (28 + 6) k, l13, l14, l15, l16, nl l17, some (.int (nI k)), l19, l20, l21, l22, l23, l24, ?_, LWd.push xb hL1 ?_ x0.2.2.2, fun d Q => ?_⟩
      · exact stp_1 xb y sx (by omega) (fun i hi => Or.inl hi) (by omega)
      · exact xc
      · rw [mid]
        simp only [e142_549, e142_551, e142_553, e142_556, e142_557, e142_560, e142_562, e142_565, e142_567, e142_568, e142_571, e142_572, e142_575, e142_576, e142_579, e142_580, e142_582, e142_584, e142_586, e142_589, e142_590, e142_593, e142_595, e142_598, e142_600, e142_603, e142_605, e142_608, e142_610, e142_611, e142_614, e142_617, e142_619, e142_621, e142_623, e142_626, e142_628, e142_630, e142_633, e142_635, e142_636, e142_637, e142_640, e142_641, e142_643, e142_646, e142_648, e142_651, e142_652, e142_655, e142_656, e142_657, nl_i, nl_r, nl_0, nl_j, nb0, nb1, nbI, orv_s, konN_v, konN_n, konN_e, true_and, and_true, and_self, if_true, if_false, ite_true, ite_false, isR_ref, true_or, or_true, isR_null, rg10, rg11, rg12, rg13, rg14, rg15, rg16, rh13, rh14, rh15, rh16, bI_T, bI_F, bI_Fb, i1z, Bool.false_eq_true, ksN_v, ksN_n, nl_scr, lc_k hR, lc_f0 hR, lc_f1 hR, lc_f2 hR, lc_f4 hR, lc_f5 hR, lc_f6 hR, lc_f7 hR, lc_f8 hR, lc_f9 hR, lc_k0 hR, lc_l0 hR, lc_k1 hR, lc_l1 hR, lc_k2 hR, lc_l2 hR, lc_k3 hR, lc_l3 hR, lc_k4 hR, lc_l4 hR, ls_R hR h1, ls_k hR h1, ls_0 hR h1, ls_1 hR h1, ls_2 hR h1, ls_3 hR h1, orv_s, ik, zz, cz, ce, c2, ev, e, i1n0]
    · have a0 : ¬ A (28 + 6) k = 0 := fun z => h2 (Or.inl z)
      have a1 : ¬ A (28 + 6) k = 1 := fun z => h2 (Or.inr z)
      have c2 : ((2 : Int32) ≤ A (28 + 6) k) = True := eq_true (st_ge r6 a0 a1)
      have e := fun d K => c_scrapS (d := d) (h := h) (T := T) (U := U) (S := S) (A := A) (J := J) (G := G) (K := K) hx (show k < 20 by omega) a0 a1
      simp only [← xF.1, xF.ho] at e
      refine ⟨alH h, U, S, A, G, D, ns, p, nx, kp, ck, 0, -2000000099, l13, l14, l15, l16, nl l17, some (.int (nI k)), l19, l20, l21, l22, l23, l24, stp_0 y, x0.hole, fun d Q => ?_⟩
      rw [mid]
      simp only [e142_549, e142_551, e142_553, e142_556, e142_557, e142_560, e142_562, e142_565, e142_567, e142_568, e142_571, e142_572, e142_575, e142_576, e142_579, e142_580, e142_582, e142_584, e142_586, e142_589, e142_590, e142_593, e142_595, e142_598, e142_600, e142_603, e142_605, e142_608, e142_610, e142_611, e142_614, e142_617, e142_619, e142_621, e142_623, e142_626, e142_628, e142_630, e142_633, e142_635, e142_636, e142_637, e142_640, e142_641, e142_643, e142_646, e142_648, e142_651, e142_652, e142_655, e142_656, e142_657, nl_i, nl_r, nl_0, nl_j, nb0, nb1, nbI, orv_s, konN_v, konN_n, konN_e, true_and, and_true, and_self, if_true, if_false, ite_true, ite_false, isR_ref, true_or, or_true, isR_null, rg10, rg11, rg12, rg13, rg14, rg15, rg16, rh13, rh14, rh15, rh16, bI_T, bI_F, bI_Fb, i1z, Bool.false_eq_true, ksN_v, ksN_n, nl_scr, lc_k hR, lc_f0 hR, lc_f1 hR, lc_f2 hR, lc_f4 hR, lc_f5 hR, lc_f6 hR, lc_f7 hR, lc_f8 hR, lc_f9 hR, lc_k0 hR, lc_l0 hR, lc_k1 hR, lc_l1 hR, lc_k2 hR, lc_l2 hR, lc_k3 hR, lc_l3 hR, lc_k4 hR, lc_l4 hR, ls_R hR h1, ls_k hR h1, ls_0 hR h1, ls_1 hR h1, ls_2 hR h1, ls_3 hR h1, orv_s, ik, zz, cz, ce, c2, e, i1n0]
  · have e1 : k = ns := by omega
    have cz : (nI ns ≤ nI k) = True := eq_true (by rw [e1]; exact Int32.le_refl _)
    have ce : (nI k = nI ns) = True := eq_true (by rw [e1])
    have hx : ¬ (0 ≤ nI k ∧ nI k < S 28 2) := fun w => by
      have := w.2
      rw [i2, lt_nI (by omega) (by omega)] at this
      omega
    have e := fun d K => c_scrapI (d := d) (h := h) (T := T) (U := U) (S := S) (A := A) (J := J) (G := G) (K := K) hx
    simp only [← xF.1, xF.ho] at e
    refine ⟨alH h, U, S, A, G, D, ns, p, nx, kp, ck, 0, -2000000097, l13, l14, l15, l16, nl l17, some (.int (nI k)), l19, l20, l21, l22, l23, l24, stp_0 y, x0.hole, fun d Q => ?_⟩
    rw [mid]
    simp only [e142_549, e142_551, e142_553, e142_556, e142_557, e142_560, e142_562, e142_565, e142_567, e142_568, e142_571, e142_572, e142_575, e142_576, e142_579, e142_580, e142_582, e142_584, e142_586, e142_589, e142_590, e142_593, e142_595, e142_598, e142_600, e142_603, e142_605, e142_608, e142_610, e142_611, e142_614, e142_617, e142_619, e142_621, e142_623, e142_626, e142_628, e142_630, e142_633, e142_635, e142_636, e142_637, e142_640, e142_641, e142_643, e142_646, e142_648, e142_651, e142_652, e142_655, e142_656, e142_657, nl_i, nl_r, nl_0, nl_j, nb0, nb1, nbI, orv_s, konN_v, konN_n, konN_e, true_and, and_true, and_self, if_true, if_false, ite_true, ite_false, isR_ref, true_or, or_true, isR_null, rg10, rg11, rg12, rg13, rg14, rg15, rg16, rh13, rh14, rh15, rh16, bI_T, bI_F, bI_Fb, i1z, Bool.false_eq_true, ksN_v, ksN_n, nl_scr, lc_k hR, lc_f0 hR, lc_f1 hR, lc_f2 hR, lc_f4 hR, lc_f5 hR, lc_f6 hR, lc_f7 hR, lc_f8 hR, lc_f9 hR, lc_k0 hR, lc_l0 hR, lc_k1 hR, lc_l1 hR, lc_k2 hR, lc_l2 hR, lc_k3 hR, lc_l3 hR, lc_k4 hR, lc_l4 hR, cz, ce, e, i1n0]
end CSX
