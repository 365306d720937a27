/-! THE LAW'S LOOP: a pass -/
section CSX
variable {T : Nat → Bool} {J : Nat → Nat → Int64} {B W : Nat → Prop} {l nz r bf s t m lp : Nat} {q : Nat → Int32} {sa : Nat → Nat → Int32} {pg : Nat → Int32} {tv : Value} {g g' : AH} {U U' S S' A A' : Nat → Nat → Int32} {G G' : Nat → Nat} {D D' : Nat → Nat → Nat} {ns ns' nx kp nx' kp' ck ck' i j : Nat} {p p' f f' : Nat → Int32} {a a' : Nat → Nat → Int32} {l2 l4 l8 l9 l13 l14 l15 l16 l17 l18 l19 l20 l21 l22 l23 l24 : Option Value} {w : ULt}
variable {l10 l11 l12 : Option Value} {done n : Nat}
theorem LWd.wb (x : LWd T J B l nz r bf s t m q sa pg tv g U S A G D ns p nx kp ck) (hs : Sm (fun i => i = bf) g g') : LWd T J B l nz r bf s t m q sa pg tv g' U S A G D ns p nx kp ck :=
  ⟨x.1.law hs (fun i hi => Or.inr (Or.inr hi)) (x.1.1.2.1.keep hs x.1.2.1.2.2.2.2.2.2.1), x.2.1.keep hs (fun i hi => (x.1.2.1.2.1 i hi).2.2.2) (fun i hi => (x.1.2.1.1 i hi).2.2.2), x.2.2⟩
theorem Aw_n3 (h : Ap B l D nz ns) : ¬ Aw l D nz ns (D 0 3) := by
  obtain ⟨⟨c, cl, cd, cz, cs, ct⟩, -⟩ := h
  have c3 := cd 3 (by omega)
  intro w
  rcases w with w | w | ⟨z, hz, w⟩ | ⟨s, hs, w⟩ | ⟨t, ht, w⟩
  · rw [w, cl] at c3; cases c3
  · rw [w, cd 1 (by omega)] at c3; cases c3
  · rw [w, cz z hz] at c3; cases c3
  · rw [w, cs s hs] at c3; cases c3
  · rw [w, ct t ht] at c3; cases c3
theorem LB.cw (x : LB T J B l nz r bf s t m q sa pg g U S A G D ns nx kp) (hi : CW T i) : i < hN g := by
  rcases hi with hi | hi
  · have := own_lt hi
    have := x.1.1.2.2
    omega
  · exact x.1.1.2.1 i hi
theorem LWd.agr (x : LWd T J B l nz r bf s t m q sa pg tv g U S A G D ns p nx kp ck) : ∀ d K, EvM (d + 14) 141 [.ref 0, .ref l] g K = K (.inl (some (.int 1))) (alH (alH g)) := fun d K =>
  s_agrees x.1.1.1 (by rw [x.1.1.2.2.2]; exact x.1.1.2.2.1) x.2.1
theorem s_pass (x : LWd T J B l nz r bf s t m q sa pg tv g U S A G D ns p nx (min (done + 1) 8) ck) (hb : HB g bf) (hK : HK T B l nz r bf s m q sa pg tv g S A G D ns nx done) (hck : ck + 60 ≤ 100000) (hd : done < 1000) (hn : n < 45) : ∃ (g' : AH) (U' S' A' : Nat → Nat → Int32) (G' : Nat → Nat) (D' : Nat → Nat → Nat) (ns' : Nat) (p' : Nat → Int32) (nx' ck' done' : Nat) (m10 m11 m12 m13 m14 m15 m16 m17 m18 m19 m20 m21 m22 m23 m24 : Option Value), LWd T J B l nz r bf s t m q sa pg tv g' U' S' A' G' D' ns' p' nx' (min (done' + 1) 8) ck' ∧ HB g' bf ∧ HK T B l nz r bf s m q sa pg tv g' S' A' G' D' ns' nx' done' ∧ (hN g' ≤ hN g + 1700 ∧ hS g' ≤ hS g + 1700 ∧ ck' ≤ ck + 60 ∧ done' ≤ done + 1) ∧ ∀ d Q, Es (d + 30) 142 200 [some scrV, some (.int 1), l2, some (.ref 0), l4, some (.ref r), some (.ref l), some (.ref bf), some (.int (nI (done))), some (.int (nI (n))), l10, l11, l12, l13, l14, l15, l16, l17, l18, l19, l20, l21, l22, l23, l24] [] g Q = Es (d + 30) 142 200 [some scrV, some (.int 1), l2, some (.ref 0), l4, some (.ref r), some (.ref l), some (.ref bf), some (.int (nI (done'))), some (.int (nI (n + 1))), m10, m11, m12, m13, m14, m15, m16, m17, m18, m19, m20, m21, m22, m23, m24] [] g' Q := by
  obtain ⟨xB, xL, xc, xz⟩ := id x
  have bfN := xB.2.1.2.2.2.2.2.2.2
  have rN : r < hN g := xB.1.2.1.1.2
  obtain ⟨g1, ⟨s1, L1⟩, e1⟩ := s_lcopy xL (fun i hi => (xB.2.1.2.1 i hi).1)
  have w1 : Sm noW g g1 := s1.1
  have N1 := s1.2.1
  have M1 := s1.2.2
  have le1 := w1.1
  have x1 : LWd T J B l nz r bf s t m q sa pg tv g1 U S A G D ns p nx (min (done + 1) 8) ck := ⟨xB.law w1 (fun _ z => z.elim) (xB.1.2.1.keep w1 (fun z => z)), xL.no s1, xc, xz⟩
  have hb1 := hb.keep w1 (fun z => z) bfN
  have hK1 : HK T B l nz r bf s m q sa pg tv g1 S A G D ns nx done := hK.keep w1 (fun i z => z.elim) (fun z => z) bfN (fun _ _ z => z) (fun i _ z => z)
  have hA : ∀ i, Ad (hN g) (D2F (hN g) nz ns (D 0 3)) nz ns i → ¬ Lw l D nz ns r bf i ∧ ¬ CW T i := fun i hi => by
    rcases D2_ad hi with ⟨z, -⟩ | z
    · refine ⟨fun w => ?_, fun w => by have := xB.cw w; omega⟩
      rcases w with w | w | w
      · have := (xB.2.1.1 i w.ad).1; omega
      · omega
      · omega
    · have ad3 : Ad l D nz ns i := Or.inr (Or.inl ⟨3, by omega, z⟩)
      have y := xB.2.1.1 i ad3
      refine ⟨fun w => ?_, y.2.1⟩
      rcases w with w | w | w
      · rw [z] at w
        exact Aw_n3 xL.2.1.1 w
      · exact y.2.2.1 w
      · exact y.2.2.2 w
  obtain ⟨g3, U', S', A', G', D', ns', p', nx', kp', ck', b, e, m13, m14, m15, m16, m17, m18, m19, m20, m21, m22, m23, m24, ⟨⟨s3, n3, m3⟩, dis⟩, x3, e3⟩ := s_disp (lp := hN g) (l2 := l2) (l4 := l4) (l8 := some (.int (nI done))) (l9 := some (.int (nI n))) (l13 := l13) (l14 := l14) (l15 := l15) (l16 := l16) (l17 := l17) (l18 := l18) (l19 := l19) (l20 := l20) (l21 := l21) (l22 := l22) (l23 := l23) (l24 := l24) x1 hck
  have c45 : ((45 : Int32) ≤ nI n) = False := eq_false (fun z => by
    have := (nI_leI (a := 45) (b := n) (by omega) (by omega)).mp z
    omega)
  have kl : hk g l = 7 := lc_k xL.1
  have e1' := fun d K => e1 d K
  have pre : ∀ d Q, Es (d + 30) 142 200 [some scrV, some (.int 1), l2, some (.ref 0), l4, some (.ref r), some (.ref l), some (.ref bf), some (.int (nI (done))), some (.int (nI (n))), l10, l11, l12, l13, l14, l15, l16, l17, l18, l19, l20, l21, l22, l23, l24] [] g Q = Es (d + 30) 142 225 [some scrV, some (.int 1), l2, some (.ref 0), l4, some (.ref r), some (.ref l), some (.ref bf), some (.int (nI done)), some (.int (nI n)), some (.ref (hN g)), some (.int 1), some (.int (-2000000098)), l13, l14, l15, l16, l17, l18, l19, l20, l21, l22, l23, l24] [] g1 Q := fun d Q => by
    rw [e142_200]
    simp only [e142_202, e142_204, e142_207, e142_208, e142_211, e142_213, e142_216, e142_218, e142_219, e142_221, e142_223, nl_i, nl_r, nl_0, nl_j, nb0, nb1, nbI, orv_s, konN_v, konN_n, konN_e, true_and, and_true, and_self, if_true, if_false, ite_true, ite_false, isR_ref, true_or, or_true, isR_null, rg10, rg11, rg12, rg13, rg14, rg15, rg16, rh13, rh14, rh15, rh16, bI_T, bI_F, bI_Fb, i1z, Bool.false_eq_true, ksN_v, ksN_n, nl_scr, c45, kl, e1', i1n0]
  have bfN1 : bf < hN g1 := by omega
  have nbf : ¬ ((Aw l D nz ns bf ∨ bf = r) ∨ CW T bf) := fun w => by
    rcases w with (w | w) | w
    · exact (xB.2.1.1 bf w.ad).2.2.2 rfl
    · exact xB.2.1.2.2.2.2.2.2.1 w.symm
    · exact xB.2.1.2.2.2.2.2.1 w
  have nB : ∀ i, B i → ¬ ((Aw l D nz ns i ∨ i = r) ∨ CW T i) := fun i hi w => by
    rcases w with (w | w) | w
    · exact xL.2.1.1.2 i hi w.ad
    · exact (xB.2.1.2.1 i hi).2.2.1 w
    · exact (xB.2.1.2.1 i hi).2.1 w
  have toLw : ∀ i, ((Aw l D nz ns i ∨ i = r) ∨ CW T i) → Lw l D nz ns r bf i ∨ CW T i := fun i w => by
    rcases w with (w | w) | w
    · exact Or.inl (Or.inl w)
    · exact Or.inl (Or.inr (Or.inl w))
    · exact Or.inr w
  have hb3 := hb1.keep s3 nbf bfN1
  have le3 := s3.1
  have i1 : nI n + 1 = nI (n + 1) := nI_add n 1
  rcases dis with ⟨q1, q2, q3, q4, q5, q6, q7, q8, q9⟩ | ⟨q1, ⟨f', a', q2, q3⟩, q4, q7, q8, q9, q5⟩
  · subst q1; subst q2; subst q3; subst q4; subst q5; subst q6; subst q7; subst q8; subst q9
    have hK3 : HK T B l nz r bf s m q sa pg tv g3 S' A' G' D' ns' nx' done := hK1.keep s3 toLw nbf bfN1 nB (fun i _ z => z)
    have hK5 : HK T B l nz r bf s m q sa pg tv (alH (alH g3)) S' A' G' D' ns' nx' done := hK3.keep (W := noW) (Sm.alH.tr Sm.alH) (fun i z => z.elim) (fun z => z) (by omega) (fun _ _ z => z) (fun i _ z => z)
    have ag := x3.agr
    refine ⟨alH (alH g3), U', S', A', G', D', ns', p', nx', ck', done, some (.ref (hN g)), some (.int 0), some (.int e), m13, m14, m15, m16, m17, m18, m19, m20, m21, m22, m23, m24, x3.hole.hole, hb3.keep (W := noW) (Sm.alH.tr Sm.alH) (fun z => z) (by omega), hK5, ⟨by show hN g3 + 1 + 1 ≤ _; omega, by show hS g3 + 6 + 6 ≤ _; omega, by omega, by omega⟩, fun d Q => ?_⟩
    rw [pre, e3]
    simp only [e142_925, e142_927, e142_930, e142_932, e142_936, e142_939, e142_941, e142_943, e142_945, e142_947, e142_948, e142_949, e142_950, e142_950_N, e142_951, e142_954, e142_957, e142_959, e142_960, e142_962, e142_962_N, e142_963, e142_966, e142_967, e142_970, e142_971, e142_973, e142_976, e142_979, e142_980, e142_983, e142_984, e142_985, e142_988, nl_i, nl_r, nl_0, nl_j, nb0, nb1, nbI, orv_s, konN_v, konN_n, konN_e, true_and, and_true, and_self, if_true, if_false, ite_true, ite_false, isR_ref, true_or, or_true, isR_null, rg10, rg11, rg12, rg13, rg14, rg15, rg16, rh13, rh14, rh15, rh16, bI_T, bI_F, bI_Fb, i1z, Bool.false_eq_true, ksN_v, ksN_n, nl_scr, ag, i1n0, i1]
  · subst q1
    obtain ⟨g4, ⟨s4, n4, m4⟩, h4, e4⟩ := s_shift (lp := hN g) (l2 := l2) (l4 := l4) (l8 := some (.int (nI done))) (l9 := some (.int (nI n))) (r := r) (l := l) (ex0 := e) (l14 := m14) (l15 := m15) (l16 := m16) (l17 := m17) (l18 := m18) (l19 := m19) (l20 := m20) (l21 := m21) (l22 := m22) (l23 := m23) (l24 := m24) hb3 (by omega) 8 g3 (by omega) ⟨Sm.rf, rfl, rfl⟩ (fun _ _ => rfl) (fun j j1 j2 => by omega)
    have k8 : nI 8 = (8 : Int32) := rfl
    rw [k8] at e4
    have L3 : LLn g3 B (hN g) (D2F (hN g) nz ns (D 0 3)) nz ns q sa tv pg m (S 28) (fun j => A (28 + j)) p := L1.keep s3 nB (fun i hi w => by
      rcases toLw i w with w | w
      · exact (hA i hi).1 w
      · exact (hA i hi).2 w)
    have toD : ∀ i, i < hN g1 → Lw l D' nz ns' r bf i → Lw l D nz ns r bf i := fun i hi w => by
      rcases w with w | w
      · rcases q5 i w with w | w
        · exact Or.inl w
        · omega
      · exact Or.inr w
    have hK3 : HK T B l nz r bf s m q sa pg tv g3 S A G D' ns' nx done := hK1.keep s3 toLw nbf bfN1 nB toD
    obtain ⟨g5, hg5⟩ : ∃ g5, g5 = wR g4 bf (va_up (hR g4 bf) 0 (some (hN g))) := ⟨_, rfl⟩
    have s5 : Sm (fun i => i = bf) g3 g5 := by rw [hg5]; exact s4.tr (Sm.wR rfl)
    have n5 : hN g5 = hN g3 := by rw [hg5]; exact n4
    have m5 : hS g5 = hS g3 := by rw [hg5]; exact m4
    have r5 : hR g5 bf = va_up (hR g4 bf) 0 (some (hN g)) := by rw [hg5]; exact wR_eq
    have nBb : ∀ i, B i → ¬ i = bf := fun i hi => (xB.2.1.2.1 i hi).2.2.2
    have L5 : LLn g5 B (hN g) (D2F (hN g) nz ns (D 0 3)) nz ns q sa tv pg m (S 28) (fun j => A (28 + j)) p := L3.keep s5 nBb (fun i hi w => (hA i hi).1 (Or.inr (Or.inr w)))
    have hK5 : HK T B l nz r bf s m q sa pg tv g5 S' A' G' D' ns' nx' (done + 1) := by
      rw [q2, q3, q4, q7]
      exact hK3.put s5 nBb (fun k k1 k2 => by rw [r5, va_up_n (by omega)]; exact h4 k k1 k2) (by rw [r5]; exact va_up_e) L5 (fun i hi => ⟨fun w => (hA i hi).1 (toD i (L1.2.1.2 i hi) w), (hA i hi).2⟩) xB.1.2.2.2 xB.2.2.2.1
    have kv : hk g4 (hN g) = 7 := by
      have y := lc_k L3.1
      exact (s4.k (L3.2.1.2 _ (Or.inl rfl))).trans y
    have hb5 : HB g5 bf := by
      refine ⟨⟨(s5.k (by omega)).trans hb3.1.1, (s5.l (by omega)).trans hb3.1.2⟩, fun k hk9 => ?_⟩
      rw [r5]
      by_cases e0 : k = 0
      · subst e0
        rw [va_up_e]
        exact Or.inr ⟨hN g, rfl, lc_k L5.1, L5.2.1.2 _ (Or.inl rfl)⟩
      · rw [va_up_n e0, h4 k (by omega) hk9]
        rcases hb3.2 (k - 1) (by omega) with w | ⟨v, w1, w2, w3⟩
        · exact Or.inl w
        · exact Or.inr ⟨v, w1, (s5.k w3).trans w2, by omega⟩
    have x5 : LWd T J B l nz r bf s t m q sa pg tv g5 U' S' A' G' D' ns' p' nx' (min (done + 1 + 1) 8) ck' := by
      have y := x3.wb s5
      have ek : kp' = min (done + 1 + 1) 8 := by rw [q8]; omega
      rw [← ek]
      exact y
    have ag := x5.agr
    have hK6 : HK T B l nz r bf s m q sa pg tv (alH (alH g5)) S' A' G' D' ns' nx' (done + 1) := hK5.keep (W := noW) (Sm.alH.tr Sm.alH) (fun i z => z.elim) (fun z => z) (by omega) (fun _ _ z => z) (fun i _ z => z)
    have kb4 : hk g4 bf = 16 := (s4.k (by omega)).trans hb3.1.1
    have lb4 : hl g4 bf = 9 := (s4.l (by omega)).trans hb3.1.2
    have i09 : inb (0 : Int32) 9 = True := eq_true (by decide)
    have i2 : nI done + 1 = nI (done + 1) := nI_add done 1
    refine ⟨alH (alH g5), U', S', A', G', D', ns', p', nx', ck', done + 1, some (.ref (hN g)), some (.int 1), some (.int e), some (.int 0), m14, m15, m16, m17, m18, m19, m20, m21, m22, m23, m24, x5.hole.hole, hb5.keep (W := noW) (Sm.alH.tr Sm.alH) (fun z => z) (by omega), hK6, ⟨by show hN g5 + 1 + 1 ≤ _; omega, by show hS g5 + 6 + 6 ≤ _; omega, by omega, by omega⟩, fun d Q => ?_⟩
    rw [pre, e3]
    simp only [e142_925, e142_927, e142_930, e142_932, nl_i, nl_r, nl_0, nl_j, nb0, nb1, nbI, orv_s, konN_v, konN_n, konN_e, true_and, and_true, and_self, if_true, if_false, ite_true, ite_false, isR_ref, true_or, or_true, isR_null, rg10, rg11, rg12, rg13, rg14, rg15, rg16, rh13, rh14, rh15, rh16, bI_T, bI_F, bI_Fb, i1z, Bool.false_eq_true, ksN_v, ksN_n, nl_scr, i1n0]
    rw [e4]
    have zz : zn (0 : Int32) = 0 := rfl
    simp only [e142_957, e142_959, e142_960, e142_962, e142_962_N, e142_963, nl_i, nl_r, nl_0, nl_j, nb0, nb1, nbI, orv_s, konN_v, konN_n, konN_e, true_and, and_true, and_self, if_true, if_false, ite_true, ite_false, isR_ref, true_or, or_true, isR_null, rg10, rg11, rg12, rg13, rg14, rg15, rg16, rh13, rh14, rh15, rh16, bI_T, bI_F, bI_Fb, i1z, Bool.false_eq_true, ksN_v, ksN_n, nl_scr, kb4, lb4, kv, i09, zz, ← hg5, i2]
    simp only [e142_966, e142_967, e142_970, e142_971, e142_973, e142_976, e142_979, e142_980, e142_983, e142_984, e142_985, e142_988, nl_i, nl_r, nl_0, nl_j, nb0, nb1, nbI, orv_s, konN_v, konN_n, konN_e, true_and, and_true, and_self, if_true, if_false, ite_true, ite_false, isR_ref, true_or, or_true, isR_null, rg10, rg11, rg12, rg13, rg14, rg15, rg16, rh13, rh14, rh15, rh16, bI_T, bI_F, bI_Fb, i1z, Bool.false_eq_true, ksN_v, ksN_n, nl_scr, ag, i1n0, i1]
end CSX
