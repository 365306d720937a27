/-! THE LAW'S LOOP: a sheet is added -/
section CSX
variable {T : Nat → Bool} {J : Nat → Nat → Int64} {B W : Nat → Prop} {l nz r bf s t m lp : Nat} {q : Nat → Int32} {sa : Nat → Nat → Int32} {pg : Nat → Int32} {tv : Value} {g g' : AH} {U U' S S' A A' : Nat → Nat → Int32} {G G' : Nat → Nat} {D D' : Nat → Nat → Nat} {ns ns' nx kp nx' kp' ck ck' i j : Nat} {p p' f f' : Nat → Int32} {a a' : Nat → Nat → Int32} {l2 l4 l8 l9 l13 l14 l15 l16 l17 l18 l19 l20 l21 l22 l23 l24 : Option Value} {w : ULt}
theorem Aw_da {N : Nat} (h : Aw l (DaF D ns N) nz (ns + 1) i) : Aw l D nz ns i ∨ i = N + 1 := by
  rcases h with h | h | ⟨z, hz, h⟩ | ⟨s, hs, h⟩ | ⟨t, ht, h⟩
  · exact Or.inl (Or.inl h)
  · rw [Da_o (by omega) (by omega)] at h
    exact Or.inl (Or.inr (Or.inl h))
  · rw [Da_o (by omega) (by omega)] at h
    exact Or.inl (Or.inr (Or.inr (Or.inl ⟨z, hz, h⟩)))
  · by_cases e : s = ns
    · rw [e, Da_n] at h
      exact Or.inr h
    · rw [Da_o (by omega) (by omega)] at h
      exact Or.inl (Or.inr (Or.inr (Or.inr (Or.inl ⟨s, by omega, h⟩))))
  · rw [Da_o (by omega) (by omega)] at h
    exact Or.inl (Or.inr (Or.inr (Or.inr (Or.inr ⟨t, ht, h⟩))))
/-- a line with one more sheet, its cells old or new -/
theorem LB.add (x : LB T J B l nz r bf s t m q sa pg g U S A G D ns nx kp) (x1 : LB T J B l nz r bf s t m q sa pg g' U S A G D ns nx kp) (hA : ∀ i, Ad l D' nz ns' i → i < hN g' ∧ (Ad l D nz ns i ∨ hN g ≤ i)) (hw : ∀ i, Aw l D' nz ns' i → Aw l D nz ns i ∨ hN g ≤ i) : LB T J B l nz r bf s t m q sa pg g' U S A G D' ns' nx kp := by
  obtain ⟨⟨a1, a2, a3, a4⟩, ⟨b1, b2, b3, b4, b5, b6, b7, b8⟩, -⟩ := x
  obtain ⟨c, ⟨d1, d2, d3, d4, d5⟩, e⟩ := x1
  have cw : ∀ i, CW T i → i < hN g := fun i hi => by
    rcases hi with hi | hi
    · have := own_lt hi
      have := a1.2.2
      omega
    · exact a1.2.1 i hi
  have rl : r < hN g := a2.1.2
  refine ⟨c, ⟨fun i hi => ⟨(hA i hi).1, ?_⟩, d2, fun j hj => ⟨(d3 j hj).1, fun z => ?_⟩, fun j hj => ⟨(d4 j hj).1, fun z => ?_⟩, d5⟩, e⟩
  · rcases (hA i hi).2 with h | h
    · exact (b1 i h).2
    · exact ⟨fun z => by have := cw i z; omega, by omega, by omega⟩
  · have lt := (b3 j hj).1
    rcases z with z | z
    · rcases hw _ z with z | z
      · exact (b3 j hj).2 (Or.inl z)
      · omega
    · exact (b3 j hj).2 (Or.inr z)
  · have lt := (b4 j hj).1
    rcases z with z | z
    · rcases hw _ z with z | z
      · exact (b4 j hj).2 (Or.inl z)
      · omega
    · exact (b4 j hj).2 (Or.inr z)
theorem s_recog {v w : Int32} (hw : 1 ≤ w) {d : Nat} {K : AO → AH → Prop} : EvM d 94 [.int v, .int w] g K = K (.inl (some (.int (if 2 ≤ thF v w ∧ thF v w ≤ 19 then thF v w else -1)))) g := by
  have h1 : (w = 0) = False := eq_false (fun z => by rw [z] at hw; exact absurd hw (by decide))
  have h2 : ((2 : Int32) = 0) = False := eq_false (by decide)
  have e : (v * 40 + w / 2) / w = thF v w := by
    unfold thF
    rw [Int32.mul_comm]
  by_cases t1 : thF v w < 2
  · rw [if_neg (fun z => Int32.not_le.mpr t1 z.1)]
    simp only [in94, i94_0, i94_1, i94_3, i94_4, i94_5, i94_6, i94_7, i94_8, i94_9, i94_10, i94_11, i94_12, i94_13, i94_16, i94_17, i94_19, i94_22, i94_23, i94_26, i94_27, nl_i, nl_r, nl_0, nl_j, nb0, nb1, nbI, orv_s, konN_v, konN_n, konN_e, true_and, and_true, and_self, if_true, if_false, ite_true, ite_false, isR_ref, true_or, or_true, isR_null, rg10, rg11, rg12, rg13, rg14, rg15, rg16, rh13, rh14, rh15, rh16, bI_T, bI_F, bI_Fb, i1z, Bool.false_eq_true, h1, h2, not_false_eq_true, e, eq_true t1]
  · by_cases t2 : thF v w ≤ 19
    · rw [if_pos ⟨Int32.not_lt.mp t1, t2⟩]
      simp only [in94, i94_0, i94_1, i94_3, i94_4, i94_5, i94_6, i94_7, i94_8, i94_9, i94_10, i94_11, i94_12, i94_13, i94_16, i94_17, i94_19, i94_22, i94_23, i94_26, i94_27, nl_i, nl_r, nl_0, nl_j, nb0, nb1, nbI, orv_s, konN_v, konN_n, konN_e, true_and, and_true, and_self, if_true, if_false, ite_true, ite_false, isR_ref, true_or, or_true, isR_null, rg10, rg11, rg12, rg13, rg14, rg15, rg16, rh13, rh14, rh15, rh16, bI_T, bI_F, bI_Fb, i1z, Bool.false_eq_true, h1, h2, not_false_eq_true, e, eq_false t1, eq_true t2]
    · rw [if_neg (fun z => t2 z.2)]
      simp only [in94, i94_0, i94_1, i94_3, i94_4, i94_5, i94_6, i94_7, i94_8, i94_9, i94_10, i94_11, i94_12, i94_13, i94_16, i94_17, i94_19, i94_22, i94_23, i94_26, i94_27, nl_i, nl_r, nl_0, nl_j, nb0, nb1, nbI, orv_s, konN_v, konN_n, konN_e, true_and, and_true, and_self, if_true, if_false, ite_true, ite_false, isR_ref, true_or, or_true, isR_null, rg10, rg11, rg12, rg13, rg14, rg15, rg16, rh13, rh14, rh15, rh16, bI_T, bI_F, bI_Fb, i1z, Bool.false_eq_true, h1, h2, not_false_eq_true, e, eq_false t1, eq_false t2]
theorem i32_nle {v w : Int32} (h : (1 : Int32) < v) : ¬ v ≤ 0 := fun z => by
  rw [i32_lt] at h
  rw [i32_le] at z
  have h : (1 : Int) < v.toInt := h
  have z : v.toInt ≤ (0 : Int) := z
  omega
theorem s_case3 (x : LWd T J B l nz r bf s t m q sa pg tv g U S A G D ns p nx kp ck) : ∃ (g' : AH) (U' S' A' : Nat → Nat → Int32) (G' : Nat → Nat) (D' : Nat → Nat → Nat) (ns' : Nat) (p' : Nat → Int32) (nx' kp' ck' : Nat) (b e : Int32) (m13 m14 m15 m16 m17 m18 m19 m20 m21 m22 m23 m24 : Option Value), STP T l nz r g S A G D ns nx kp ck g' S' A' G' D' ns' nx' kp' ck' b ∧ LWd T J B l nz r bf s t m q sa pg tv g' U' S' A' G' D' ns' p' nx' kp' ck' ∧ ∀ d Q, Es (d + 30) 142 660 [some scrV, some (.int 1), l2, some (.ref 0), l4, some (.ref r), some (.ref l), some (.ref bf), l8, l9, some (.ref lp), some (.int 1), some (.int (-2000000098)), l13, l14, l15, l16, l17, l18, l19, l20, l21, l22, l23, l24] [] g Q = Es (d + 30) 142 925 [some scrV, some (.int 1), l2, some (.ref 0), l4, some (.ref r), some (.ref l), some (.ref bf), l8, l9, some (.ref lp), some (.int b), some (.int e), m13, m14, m15, m16, m17, m18, m19, m20, m21, m22, m23, m24] [] g' Q := by
  obtain ⟨ar, w0, h, har, hw0, y, mid⟩ := rnd_3 (l := l) (lp := lp) (bf := bf) (l2 := l2) (l4 := l4) (l8 := l8) (l9 := l9) (l13 := l13) (l14 := l14) (l15 := l15) (l16 := l16) (l17 := l17) (l18 := l18) (l19 := l19) (l20 := l20) (l21 := l21) (l22 := l22) (l23 := l23) (l24 := l24) x.1.1.2.1
  have x0 := x.rnd y
  obtain ⟨xB, xL, xc, xz⟩ := id x0
  have xF := xB.1.1
  have hs := xB.1.2.2.1
  have g28 := xB.1.2.2.2
  have hR := xL.1
  have hI := xL.2.2.2.1
  have n6 := xL.2.2.2.2.2.1.2
  have q0 := xL.2.2.2.2.2.1.1
  have n20 := hI.1.2.1
  have i2 : S 28 2 = nI ns := hI.1.1
  have hn1 := xB.2.2.1
  have hn2 := xB.2.2.2.1
  have hn3 := xB.2.2.2.2.1
  have hn4 := xB.2.2.2.2.2.1
  have k0 : hk h 0 = 6 := by rw [xF.1]; exact k_0
  rw [← g28] at hs
  have q00 : 0 < q 0 := by rw [q0, show (0 : Int32) = nI 0 from rfl, lt_nI (by omega) (by omega)]; exact xz
  have hx : 1 ≤ nI w0 ∧ nI w0 ≤ 9999 := by
    refine ⟨?_, ?_⟩
    · rw [show (1 : Int32) = nI 1 from rfl, nI_leI (by omega) (by omega)]; omega
    · rw [show (9999 : Int32) = nI 9999 from rfl, nI_leI (by omega) (by omega)]; omega
  by_cases h0 : ar = 0
  · have hy : ¬ (1 ≤ nI ar ∧ nI ar ≤ 9999) := by rw [h0]; decide
    have ca : (nI ar = 0) = True := by rw [h0]; exact eq_true rfl
    have e := fun d K => c_addY (d := d) (h := h) (T := T) (U := U) (S := S) (A := A) (J := J) (G := G) (K := K) hx hy
    simp only [← xF.1, xF.ho] at e
    refine ⟨alH h, U, S, A, G, D, ns, p, nx, kp, ck, 0, -2000000098, l13, l14, l15, l16, l17, nl l18, some (.int (nI ar)), some (.int (nI w0)), some (.int (-1)), l22, l23, l24, stp_0 y, x0.hole, fun d Q => ?_⟩
    rw [mid]
    simp only [e142_706, e142_708, e142_711, e142_712, e142_715, e142_717, e142_719, e142_722, e142_724, e142_726, e142_729, e142_731, e142_734, e142_735, e142_737, e142_740, e142_741, e142_744, e142_745, e142_747, e142_749, e142_752, e142_754, e142_757, e142_759, e142_762, e142_763, e142_766, e142_768, e142_770, e142_772, e142_775, e142_777, e142_779, e142_782, e142_783, e142_785, e142_787, e142_790, e142_792, e142_795, e142_796, e142_799, e142_800, e142_801, nl_i, nl_r, nl_0, nl_j, nb0, nb1, nbI, orv_s, konN_v, konN_n, konN_e, true_and, and_true, and_self, if_true, if_false, ite_true, ite_false, isR_ref, true_or, or_true, isR_null, rg10, rg11, rg12, rg13, rg14, rg15, rg16, rh13, rh14, rh15, rh16, bI_T, bI_F, bI_Fb, i1z, Bool.false_eq_true, ksN_v, ksN_n, nl_scr, ca, show ((-1 : Int32) ≤ 0) = True from eq_true (by decide), e]
  · have ca : (nI ar = 0) = False := nI_nz0 h0 (by omega)
    have hy : 1 ≤ nI ar ∧ nI ar ≤ 9999 := by
      refine ⟨?_, ?_⟩
      · rw [show (1 : Int32) = nI 1 from rfl, nI_leI (by omega) (by omega)]; omega
      · rw [show (9999 : Int32) = nI 9999 from rfl, nI_leI (by omega) (by omega)]; omega
    have rc := fun d K => s_recog (g := h) (v := nI w0) (d := d) (K := K) hy.1
    by_cases ht : 2 ≤ thF (nI w0) (nI ar) ∧ thF (nI w0) (nI ar) ≤ 19
    · simp only [if_pos ht] at rc
      have ct : (thF (nI w0) (nI ar) ≤ 0) = False := eq_false (fun z => by
        have a := ht.1
        rw [i32_le] at a z
        have a : (2 : Int) ≤ (thF (nI w0) (nI ar)).toInt := a
        have z : (thF (nI w0) (nI ar)).toInt ≤ (0 : Int) := z
        omega)
      by_cases h2 : ns < 20
      · have c2 : ((20 : Int32) ≤ nI ns) = False := eq_false (fun z => by
          have := (nI_leI (a := 20) (b := ns) (by omega) (by omega)).mp z
          omega)
        obtain ⟨h1v, ⟨sx, hL1⟩, ev⟩ := s_ladd xL (fun i hi => (xB.2.1.2.1 i hi).1) h2 xz ht
        have xb := xB.add (xB.lw sx) (D' := DaF D ns (hN h)) (ns' := ns + 1) (fun i hi => ⟨hL1.2.1.2 i hi, by
          rcases Da_ad hi with z | z | z
          · exact Or.inl z
          · exact Or.inr (by omega)
          · exact Or.inr (by omega)⟩) (fun i hi => by
          rcases Aw_da hi with z | z
          · exact Or.inl z
          · exact Or.inr (by omega))
        have xF1 := xb.1.1
        have hs1 := xb.1.2.2.1
        rw [← g28] at hs1
        have e := fun d K => c_add (d := d) (h := h1v) (U := U) (S := S) (A := A) (J := J) (K := K) hs1 q00 hx hy ht i2 h2 hn1 hn2 hn3 hn4
        simp only [← xF1.1] at e
        refine ⟨MH (h1v) T (U) (pS (Sr S nx kp) 28 ((putL (S 28) (fun j => A (28 + j)) (thF (nI w0) (nI ar))).1)) (pA (Ar A nx) 28 ((putL (S 28) (fun j => A (28 + j)) (thF (nI w0) (nI ar))).2)) J (Gr G nx), U, pS (Sr S nx kp) 28 ((putL (S 28) (fun j => A (28 + j)) (thF (nI w0) (nI ar))).1), pA (Ar A nx) 28 ((putL (S 28) (fun j => A (28 + j)) (thF (nI w0) (nI ar))).2), Gr G nx, DaF D ns (hN h), ns + 1, upd p ns (-2), (nx + 1) % 8, min (kp + 1) 8, ck, 1, nI ns, l13, l14, l15, l16, l17, nl l18, some (.int (nI ar)), some (.int (nI w0)), some (.int (thF (nI w0) (nI ar))), l22, l23, l24, ?_, LWd.push xb hL1 ?_ x0.2.2.2, fun d Q => ?_⟩
        · exact stp_1 xb y sx (by omega) (fun i hi => by
            rcases Aw_da hi with z | z
            · exact Or.inl z
            · exact Or.inr (by have := y.1.2.1; omega)) (by omega)
        · unfold putL
          exact (upf_ne (S 28) (i := 2) (j := 1) (S 28 2 + 1) (by omega)).trans xc
        · rw [mid]
          simp only [e142_706, e142_708, e142_711, e142_712, e142_715, e142_717, e142_719, e142_722, e142_724, e142_726, e142_729, e142_731, e142_734, e142_735, e142_737, e142_740, e142_741, e142_744, e142_745, e142_747, e142_749, e142_752, e142_754, e142_757, e142_759, e142_762, e142_763, e142_766, e142_768, e142_770, e142_772, e142_775, e142_777, e142_779, e142_782, e142_783, e142_785, e142_787, e142_790, e142_792, e142_795, e142_796, e142_799, e142_800, e142_801, nl_i, nl_r, nl_0, nl_j, nb0, nb1, nbI, orv_s, konN_v, konN_n, konN_e, true_and, and_true, and_self, if_true, if_false, ite_true, ite_false, isR_ref, true_or, or_true, isR_null, rg10, rg11, rg12, rg13, rg14, rg15, rg16, rh13, rh14, rh15, rh16, bI_T, bI_F, bI_Fb, i1z, Bool.false_eq_true, ksN_v, ksN_n, nl_scr, lc_k hR, lc_f0 hR, lc_f1 hR, lc_f2 hR, lc_f4 hR, lc_f5 hR, lc_f6 hR, lc_f7 hR, lc_f8 hR, lc_f9 hR, lc_k0 hR, lc_l0 hR, lc_k1 hR, lc_l1 hR, lc_k2 hR, lc_l2 hR, lc_k3 hR, lc_l3 hR, lc_k4 hR, lc_l4 hR, ca, rc, ct, c2, ev, e, i1n0]
      · have e20 : ns = 20 := by omega
        have c2 : ((20 : Int32) ≤ nI ns) = True := by rw [e20]; exact eq_true (by decide)
        have e := fun d K => c_addF (d := d) (h := h) (U := U) (S := S) (A := A) (J := J) (K := K) hs q00 hx hy ht (by rw [i2, e20]; rfl)
        simp only [← xF.1, xF.ho] at e
        refine ⟨alH h, U, S, A, G, D, ns, p, nx, kp, ck, 0, -2000000099, l13, l14, l15, l16, l17, nl l18, some (.int (nI ar)), some (.int (nI w0)), some (.int (thF (nI w0) (nI ar))), l22, l23, l24, stp_0 y, x0.hole, fun d Q => ?_⟩
        rw [mid]
        simp only [e142_706, e142_708, e142_711, e142_712, e142_715, e142_717, e142_719, e142_722, e142_724, e142_726, e142_729, e142_731, e142_734, e142_735, e142_737, e142_740, e142_741, e142_744, e142_745, e142_747, e142_749, e142_752, e142_754, e142_757, e142_759, e142_762, e142_763, e142_766, e142_768, e142_770, e142_772, e142_775, e142_777, e142_779, e142_782, e142_783, e142_785, e142_787, e142_790, e142_792, e142_795, e142_796, e142_799, e142_800, e142_801, nl_i, nl_r, nl_0, nl_j, nb0, nb1, nbI, orv_s, konN_v, konN_n, konN_e, true_and, and_true, and_self, if_true, if_false, ite_true, ite_false, isR_ref, true_or, or_true, isR_null, rg10, rg11, rg12, rg13, rg14, rg15, rg16, rh13, rh14, rh15, rh16, bI_T, bI_F, bI_Fb, i1z, Bool.false_eq_true, ksN_v, ksN_n, nl_scr, lc_k hR, lc_f0 hR, lc_f1 hR, lc_f2 hR, lc_f4 hR, lc_f5 hR, lc_f6 hR, lc_f7 hR, lc_f8 hR, lc_f9 hR, lc_k0 hR, lc_l0 hR, lc_k1 hR, lc_l1 hR, lc_k2 hR, lc_l2 hR, lc_k3 hR, lc_l3 hR, lc_k4 hR, lc_l4 hR, ca, rc, ct, c2, e, i1n0]
    · simp only [if_neg ht] at rc
      have e := fun d K => c_addT (d := d) (h := h) (T := T) (U := U) (S := S) (A := A) (J := J) (G := G) (K := K) hx hy ht
      simp only [← xF.1, xF.ho] at e
      refine ⟨alH h, U, S, A, G, D, ns, p, nx, kp, ck, 0, -2000000098, l13, l14, l15, l16, l17, nl l18, some (.int (nI ar)), some (.int (nI w0)), some (.int (-1)), l22, l23, l24, stp_0 y, x0.hole, fun d Q => ?_⟩
      rw [mid]
      simp only [e142_706, e142_708, e142_711, e142_712, e142_715, e142_717, e142_719, e142_722, e142_724, e142_726, e142_729, e142_731, e142_734, e142_735, e142_737, e142_740, e142_741, e142_744, e142_745, e142_747, e142_749, e142_752, e142_754, e142_757, e142_759, e142_762, e142_763, e142_766, e142_768, e142_770, e142_772, e142_775, e142_777, e142_779, e142_782, e142_783, e142_785, e142_787, e142_790, e142_792, e142_795, e142_796, e142_799, e142_800, e142_801, nl_i, nl_r, nl_0, nl_j, nb0, nb1, nbI, orv_s, konN_v, konN_n, konN_e, true_and, and_true, and_self, if_true, if_false, ite_true, ite_false, isR_ref, true_or, or_true, isR_null, rg10, rg11, rg12, rg13, rg14, rg15, rg16, rh13, rh14, rh15, rh16, bI_T, bI_F, bI_Fb, i1z, Bool.false_eq_true, ksN_v, ksN_n, nl_scr, ca, rc, show ((-1 : Int32) ≤ 0) = True from eq_true (by decide), e]
end CSX
