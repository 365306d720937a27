/-! THE LAW'S LOOP: its cases -/
/-- what one pass does up to its comparing: nothing to the class (b = 0), or one change (b = 1) -/
def STP (T : Nat → Bool) (l nz r : Nat) (g : AH) (S A : Nat → Nat → Int32) (G : Nat → Nat) (D : Nat → Nat → Nat) (ns nx kp ck : Nat) (g' : AH) (S' A' : Nat → Nat → Int32) (G' : Nat → Nat) (D' : Nat → Nat → Nat) (ns' nx' kp' ck' : Nat) (b : Int32) : Prop :=
  (Sm (fun i => (Aw l D nz ns i ∨ i = r) ∨ CW T i) g g' ∧ hN g' ≤ hN g + 1200 ∧ hS g' ≤ hS g + 1200) ∧
  ((b = 0 ∧ S' = S ∧ A' = A ∧ G' = G ∧ D' = D ∧ ns' = ns ∧ nx' = nx ∧ kp' = kp ∧ ck' = ck) ∨
   (b = 1 ∧ (∃ f' a', S' = pS (Sr S nx kp) 28 f' ∧ A' = pA (Ar A nx) 28 a') ∧ G' = Gr G nx ∧ nx' = (nx + 1) % 8 ∧ kp' = min (kp + 1) 8 ∧ ck' ≤ ck + 60 ∧ ∀ i, Aw l D' nz ns' i → Aw l D nz ns i ∨ hN g ≤ i))
section CASES
variable {T : Nat → Bool} {J : Nat → Nat → Int64} {B W : Nat → Prop} {l nz r bf s t m lp : Nat} {q : Nat → Int32} {sa : Nat → Nat → Int32} {pg : Nat → Int32} {tv : Value} {g g' : AH} {U U' S S' A A' : Nat → Nat → Int32} {G G' : Nat → Nat} {D D' : Nat → Nat → Nat} {ns ns' nx kp nx' kp' ck ck' i j : Nat} {p p' f f' : Nat → Int32} {a a' : Nat → Nat → Int32} {l2 l4 l8 l9 l13 l14 l15 l16 l17 l18 l19 l20 l21 l22 l23 l24 : Option Value} {w : ULt}
/-- random numbers were drawn -/
theorem LWd.rnd {h : AH} (x : LWd T J B l nz r bf s t m q sa pg tv g U S A G D ns p nx kp ck) (y : (Sm (fun i => i = r) g h ∧ hN h = hN g ∧ hS h = hS g) ∧ RN h r) : LWd T J B l nz r bf s t m q sa pg tv h U S A G D ns p nx kp ck :=
  ⟨x.1.law y.1.1 (fun i hi => Or.inr (Or.inl hi)) y.2, x.2.1.keep y.1.1 (fun i hi => (x.1.2.1.2.1 i hi).2.2.1) (fun i hi => (x.1.2.1.1 i hi).2.2.1), x.2.2⟩
theorem LWd.hole (x : LWd T J B l nz r bf s t m q sa pg tv g U S A G D ns p nx kp ck) : LWd T J B l nz r bf s t m q sa pg tv (alH g) U S A G D ns p nx kp ck :=
  ⟨x.1.hole, x.2.1.no (c := 6) Sx.alH, x.2.2⟩
/-- the law has written to its line -/
theorem LB.lw {c : Nat} (x : LB T J B l nz r bf s t m q sa pg g U S A G D ns nx kp) (y : Sx (Aw l D nz ns) c g g') : LB T J B l nz r bf s t m q sa pg g' U S A G D ns nx kp :=
  x.law y.1 (fun i hi => Or.inl hi) (x.1.2.1.keep y.1 (fun z => (x.2.1.1 r z.ad).2.2.1 rfl))
theorem stp_0 {h : AH} (y : (Sm (fun i => i = r) g h ∧ hN h = hN g ∧ hS h = hS g) ∧ RN h r) : STP T l nz r g S A G D ns nx kp ck (alH h) S A G D ns nx kp ck 0 :=
  ⟨⟨(y.1.1.mo (fun i _ z => Or.inl (Or.inr z))).tr Sm.alH, by show hN h + 1 ≤ _; omega, by show hS h + 6 ≤ _; omega⟩, Or.inl ⟨rfl, rfl, rfl, rfl, rfl, rfl, rfl, rfl, rfl⟩⟩
theorem stp_1 {h h1 : AH} {c : Nat} (x : LB T J B l nz r bf s t m q sa pg h1 U S A G D' ns' nx kp) (y : (Sm (fun i => i = r) g h ∧ hN h = hN g ∧ hS h = hS g) ∧ RN h r) (z : Sx (Aw l D nz ns) c h h1) (hc : c ≤ 1200) (hD : ∀ i, Aw l D' nz ns' i → Aw l D nz ns i ∨ hN g ≤ i) (hck : ck' ≤ ck + 60) : STP T l nz r g S A G D ns nx kp ck (MH h1 T U' (pS (Sr S nx kp) 28 f') (pA (Ar A nx) 28 a') J (Gr G nx)) (pS (Sr S nx kp) 28 f') (pA (Ar A nx) 28 a') (Gr G nx) D' ns' ((nx + 1) % 8) (min (kp + 1) 8) ck' 1 :=
  ⟨⟨((y.1.1.mo (fun i _ z => Or.inl (Or.inr z))).tr (z.1.mo (fun i _ z => Or.inl (Or.inl z)))).tr (x.1.1.cls.1.mo (fun i _ z => Or.inr z)), by show hN h1 ≤ _; have := z.2.1; omega, by show hS h1 ≤ _; have := z.2.2; omega⟩, Or.inr ⟨rfl, ⟨f', a', rfl, rfl⟩, rfl, rfl, rfl, hck, hD⟩⟩
theorem s_case0 (x : LWd T J B l nz r bf s t m q sa pg tv g U S A G D ns p nx kp ck) : ∃ (g' : AH) (U' S' A' : Nat → Nat → Int32) (G' : Nat → Nat) (D' : Nat → Nat → Nat) (ns' : Nat) (p' : Nat → Int32) (nx' kp' ck' : Nat) (b e : Int32) (m13 m14 m15 m16 m17 m18 m19 m20 m21 m22 m23 m24 : Option Value), STP T l nz r g S A G D ns nx kp ck g' S' A' G' D' ns' nx' kp' ck' b ∧ LWd T J B l nz r bf s t m q sa pg tv g' U' S' A' G' D' ns' p' nx' kp' ck' ∧ ∀ d Q, Es (d + 30) 142 272 [some scrV, some (.int 1), l2, some (.ref 0), l4, some (.ref r), some (.ref l), some (.ref bf), l8, l9, some (.ref lp), some (.int 1), some (.int (-2000000098)), l13, l14, l15, l16, l17, l18, l19, l20, l21, l22, l23, l24] [] g Q = Es (d + 30) 142 925 [some scrV, some (.int 1), l2, some (.ref 0), l4, some (.ref r), some (.ref l), some (.ref bf), l8, l9, some (.ref lp), some (.int b), some (.int e), m13, m14, m15, m16, m17, m18, m19, m20, m21, m22, m23, m24] [] g' Q := by
  obtain ⟨z, v, h, hz, hv, y, mid⟩ := rnd_0 (B := B) (D := D) (ns := ns) (q := q) (sa := sa) (tv := tv) (f := S 28) (a := fun j => A (28 + j)) (p := p) (lp := lp) (bf := bf) (l2 := l2) (l4 := l4) (l8 := l8) (l9 := l9) (l13 := l13) (l14 := l14) (l15 := l15) (l16 := l16) (l17 := l17) (l18 := l18) (l19 := l19) (l20 := l20) (l21 := l21) (l22 := l22) (l23 := l23) (l24 := l24) x.1.1.2.1 x.2.1.1 x.2.2.2 x.2.1.2.2.2.2.2.1.2
  have x0 := x.rnd y
  obtain ⟨xB, xL, xc, xz⟩ := id x0
  have xF := xB.1.1
  have hs := xB.1.2.2.1
  have g28 := xB.1.2.2.2
  have hR := xL.1
  have hI := xL.2.2.2.1
  have n6 := xL.2.2.2.2.2.1.2
  have q0 := xL.2.2.2.2.2.1.1
  have n20 := hI.1.2.1
  have i2 : S 28 2 = nI ns := hI.1.1
  have hn1 := xB.2.2.1
  have hn2 := xB.2.2.2.1
  have hn3 := xB.2.2.2.2.1
  have hn4 := xB.2.2.2.2.2.1
  have k0 : hk h 0 = 6 := by rw [xF.1]; exact k_0
  rw [← g28] at hs
  have cv : (nI v ≤ 99) = (v = 99) := by
    rw [show (99 : Int32) = nI 99 from rfl, nI_leI (a := v) (b := 99) (by omega) (by omega)]
    exact propext ⟨fun e => by omega, fun e => by omega⟩
  by_cases h1 : z < nz
  · have cz : (nI nz ≤ nI z) = False := eq_false (fun w => by
      have := (nI_leI (a := nz) (b := z) (by omega) (by omega)).mp w
      omega)
    have hx : 0 ≤ nI z ∧ nI z < q 0 := by
      rw [q0]
      exact ⟨nI_pos' (by omega), by rw [lt_nI (by omega) (by omega)]; exact h1⟩
    have iz : inb (nI z) nz = True := inbT h1 (by omega)
    have zz : zn (nI z) = z := zn_nI (by omega)
    by_cases h2 : v = 99
    · have hy : ¬ (100 ≤ nI v ∧ nI v ≤ 900) := by rw [h2]; decide
      have cv2 : (nI v ≤ 99) = True := by rw [cv]; exact eq_true h2
      have e := fun d K => c_setPointA (d := d) (h := h) (U := U) (S := S) (A := A) (J := J) (K := K) (x := nI z) (y := nI v) hs hx hy
      simp only [← xF.1, xF.ho] at e
      refine ⟨alH h, U, S, A, G, D, ns, p, nx, kp, ck, 0, -2000000098, some (.int (nI z)), some (.int (nI v)), some (.int 1), l16, l17, l18, l19, l20, l21, l22, l23, l24, stp_0 y, x0.hole, fun d Q => ?_⟩
      rw [mid]
      simp only [e142_329, e142_331, e142_333, e142_336, e142_337, e142_340, e142_341, e142_344, e142_345, e142_347, e142_349, e142_352, e142_354, e142_356, e142_359, e142_360, e142_363, e142_364, e142_366, e142_368, e142_371, e142_373, e142_375, e142_377, e142_380, e142_382, e142_385, e142_387, e142_388, e142_389, e142_390, e142_392, e142_394, e142_397, e142_399, e142_400, e142_401, e142_403, e142_404, e142_405, e142_407, e142_409, e142_412, e142_414, e142_417, e142_418, e142_421, e142_422, e142_423, nl_i, nl_r, nl_0, nl_j, nb0, nb1, nbI, orv_s, konN_v, konN_n, konN_e, true_and, and_true, and_self, if_true, if_false, ite_true, ite_false, isR_ref, true_or, or_true, isR_null, rg10, rg11, rg12, rg13, rg14, rg15, rg16, rh13, rh14, rh15, rh16, bI_T, bI_F, bI_Fb, i1z, Bool.false_eq_true, ksN_v, ksN_n, nl_scr, lc_k hR, lc_f0 hR, lc_f1 hR, lc_f2 hR, lc_f4 hR, lc_f5 hR, lc_f6 hR, lc_f7 hR, lc_f8 hR, lc_f9 hR, lc_k0 hR, lc_l0 hR, lc_k1 hR, lc_l1 hR, lc_k2 hR, lc_l2 hR, lc_k3 hR, lc_l3 hR, lc_k4 hR, lc_l4 hR, cz, cv2, e, i1n0]
    · have hy : 100 ≤ nI v ∧ nI v ≤ 900 := by
        refine ⟨?_, ?_⟩
        · rw [show (100 : Int32) = nI 100 from rfl, nI_leI (a := 100) (b := v) (by omega) (by omega)]; omega
        · rw [show (900 : Int32) = nI 900 from rfl, nI_leI (a := v) (b := 900) (by omega) (by omega)]; omega
      have cv2 : (nI v ≤ 99) = False := by rw [cv]; exact eq_false h2
      obtain ⟨sx, hL1⟩ := s_lset xL h1 hy
      have xb := xB.lw sx
      have xF1 := xb.1.1
      have hs1 := xb.1.2.2.1
      rw [← g28] at hs1
      have e := fun d K => c_setPoint (d := d) (U := U) (S := S) (A := A) (J := J) (K := K) (y := nI v) hs1 hx (by omega) hy hn1 hn2 hn3 hn4
      simp only [← xF1.1] at e
      have k1 : hk h (D 1 z) = 10 := lz_k hR h1
      refine ⟨MH (wA h (D 1 z) (upd (hA h (D 1 z)) 0 (nI v))) T (U) (pS (Sr S nx kp) 28 (S 28)) (pA (Ar A nx) 28 (upf (fun j => A (28 + j)) 1 (upd (A (28 + 1)) z (nI v)))) J (Gr G nx), U, pS (Sr S nx kp) 28 (S 28), pA (Ar A nx) 28 (upf (fun j => A (28 + j)) 1 (upd (A (28 + 1)) z (nI v))), Gr G nx, D, ns, p, (nx + 1) % 8, min (kp + 1) 8, ck, 1, A (28 + 1) z, some (.int (nI z)), some (.int (nI v)), some (.int 1), l16, l17, l18, l19, l20, l21, l22, l23, l24, ?_, LWd.push xb hL1 ?_ x0.2.2.2, fun d Q => ?_⟩
      · exact stp_1 xb y sx (by omega) (fun i hi => Or.inl hi) (by omega)
      · exact xc
      · rw [mid]
        simp only [e142_329, e142_331, e142_333, e142_336, e142_337, e142_340, e142_341, e142_344, e142_345, e142_347, e142_349, e142_352, e142_354, e142_356, e142_359, e142_360, e142_363, e142_364, e142_366, e142_368, e142_371, e142_373, e142_375, e142_377, e142_380, e142_382, e142_385, e142_387, e142_388, e142_389, e142_390, e142_392, e142_394, e142_397, e142_399, e142_400, e142_401, e142_403, e142_404, e142_405, e142_407, e142_409, e142_412, e142_414, e142_417, e142_418, e142_421, e142_422, e142_423, nl_i, nl_r, nl_0, nl_j, nb0, nb1, nbI, orv_s, konN_v, konN_n, konN_e, true_and, and_true, and_self, if_true, if_false, ite_true, ite_false, isR_ref, true_or, or_true, isR_null, rg10, rg11, rg12, rg13, rg14, rg15, rg16, rh13, rh14, rh15, rh16, bI_T, bI_F, bI_Fb, i1z, Bool.false_eq_true, ksN_v, ksN_n, nl_scr, lc_k hR, lc_f0 hR, lc_f1 hR, lc_f2 hR, lc_f4 hR, lc_f5 hR, lc_f6 hR, lc_f7 hR, lc_f8 hR, lc_f9 hR, lc_k0 hR, lc_l0 hR, lc_k1 hR, lc_l1 hR, lc_k2 hR, lc_l2 hR, lc_k3 hR, lc_l3 hR, lc_k4 hR, lc_l4 hR, lc_k hL1.1, lc_f0 hL1.1, lc_f1 hL1.1, lc_f2 hL1.1, lc_f4 hL1.1, lc_f5 hL1.1, lc_f6 hL1.1, lc_f7 hL1.1, lc_f8 hL1.1, lc_f9 hL1.1, lc_k0 hL1.1, lc_l0 hL1.1, lc_k1 hL1.1, lc_l1 hL1.1, lc_k2 hL1.1, lc_l2 hL1.1, lc_k3 hL1.1, lc_l3 hL1.1, lc_k4 hL1.1, lc_l4 hL1.1, lz_R hR h1, lz_k hR h1, lz_l hR h1, lz_0 hR h1, lz_1 hR h1, lz_2 hR h1, lz_3 hR h1, lz_4 hR h1, lz_h hR h1, ib04, ib14, ib24, ib34, ib05, ib15, ib25, ib35, ib45, zn_0, zn_1, zn_2, zn_3, zn_4, orv_s, iz, zz, cz, cv2, e, i1n0]
  · have e1 : z = nz := by omega
    have cz : (nI nz ≤ nI z) = True := eq_true (by rw [e1]; exact Int32.le_refl _)
    have hx : ¬ (0 ≤ nI z ∧ nI z < q 0) := fun w => by
      have := w.2
      rw [q0, lt_nI (by omega) (by omega)] at this
      omega
    have e := fun d K => c_setPointI (d := d) (h := h) (U := U) (S := S) (A := A) (J := J) (K := K) (x := nI z) (y := nI v) hs hx
    simp only [← xF.1, xF.ho] at e
    refine ⟨alH h, U, S, A, G, D, ns, p, nx, kp, ck, 0, -2000000097, some (.int (nI z)), some (.int (nI v)), some (.int 0), l16, l17, l18, l19, l20, l21, l22, l23, l24, stp_0 y, x0.hole, fun d Q => ?_⟩
    rw [mid]
    simp only [e142_329, e142_331, e142_333, e142_336, e142_337, e142_340, e142_341, e142_344, e142_345, e142_347, e142_349, e142_352, e142_354, e142_356, e142_359, e142_360, e142_363, e142_364, e142_366, e142_368, e142_371, e142_373, e142_375, e142_377, e142_380, e142_382, e142_385, e142_387, e142_388, e142_389, e142_390, e142_392, e142_394, e142_397, e142_399, e142_400, e142_401, e142_403, e142_404, e142_405, e142_407, e142_409, e142_412, e142_414, e142_417, e142_418, e142_421, e142_422, e142_423, nl_i, nl_r, nl_0, nl_j, nb0, nb1, nbI, orv_s, konN_v, konN_n, konN_e, true_and, and_true, and_self, if_true, if_false, ite_true, ite_false, isR_ref, true_or, or_true, isR_null, rg10, rg11, rg12, rg13, rg14, rg15, rg16, rh13, rh14, rh15, rh16, bI_T, bI_F, bI_Fb, i1z, Bool.false_eq_true, ksN_v, ksN_n, nl_scr, lc_k hR, lc_f0 hR, lc_f1 hR, lc_f2 hR, lc_f4 hR, lc_f5 hR, lc_f6 hR, lc_f7 hR, lc_f8 hR, lc_f9 hR, lc_k0 hR, lc_l0 hR, lc_k1 hR, lc_l1 hR, lc_k2 hR, lc_l2 hR, lc_k3 hR, lc_l3 hR, lc_k4 hR, lc_l4 hR, cz, e, i1n0]
end CASES
