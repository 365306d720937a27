/-! FACE: load -/
section LZ
variable {d : Nat} {h : AH} {hh : AH} {T : Nat → Bool} {U S A : Nat → Nat → Int32} {J : Nat → Nat → Int64} {G : Nat → Nat} {K : AO → AH → Prop} {x : Int32} {m D : Nat → Int32} {kp : Nat}
/-- the reference after the reading, when it read well -/
theorem lr_ok {m2 : Option Value} (hx : ¬ m2 = none ∨ True) (h5 : m 5 = 0) (h6 : m 6 = -1) (h12 : m 12 = nI kp) (hk : kp ≤ 8) {w ln : Int32} : ∃ S4 A4 : Nat → Nat → Int32, (∀ i, ¬ i = 140 → S4 i = S i) ∧ S4 140 2 = m 2 ∧ S4 140 7 = -1 ∧ S4 140 12 = nI (min (kp + 1) 8) ∧ S4 140 0 = m 0 ∧ (∀ i, i < 140 → A4 i = A i) ∧
    deq (A 142) (A4 (146 + (min (kp + 1) 8 - 1))) ∧ (∀ i, i + 1 < min (kp + 1) 8 → deq (A (146 + (if kp = 8 then i + 1 else i))) (A4 (146 + i))) ∧ deq D (A4 142) ∧
    ∀ d K, Ev (d + 25) 114 181 [some (.ref 140), some (.int w), some (.int ln)] [] (MH h T U (pS S 140 m) (upf A 143 D) J G) K = K (.inl (some (.int (D 0)))) (MH h T U S4 A4 J G) := by
  have s12 : pS S 140 (upf m 7 (-1)) 140 12 = nI kp := (show m 12 = nI kp from h12)
  obtain ⟨A3, r, a1, a2, a3⟩ := s_mRem (h := h) (T := T) (U := U) (A := upf A 143 D) (J := J) (G := G) s12 hk
  have c2 := fun d K => s_copy (d := d) (h := h) (T := T) (U := U) (S := pS S 140 (upf (upf m 7 (-1)) 12 (nI (min (kp + 1) 8)))) (A := A3) (J := J) (G := G) (K := K) (x := 143) (y := 142) rfl rfl rfl rfl (by omega)
  rw [a1 143 (by omega), upf_same] at c2
  refine ⟨pS S 140 (upf (upf m 7 (-1)) 12 (nI (min (kp + 1) 8))), upf A3 142 (cpF D (A3 142)), fun i hi => funext fun k => ?_, rfl, rfl, rfl, rfl, fun i hi => ?_, ?_, fun i hi => ?_, ?_, fun d K => ?_⟩
  · rw [pS_ne hi]
  · rw [upf_ne _ _ (by omega), a1 i (by omega), upf_ne _ _ (by omega)]
  · rw [upf_ne _ _ (by omega)]
    rw [upf_ne _ _ (show ¬ 142 = 143 by decide)] at a2
    exact a2
  · rw [upf_ne _ _ (by omega)]
    have := a3 i hi
    rw [upf_ne _ _ (by omega)] at this
    exact this
  · rw [upf_same]
    exact cp_deq
  · have z0 : cpF D (A3 142) 0 = D 0 := if_pos (by omega)
    simp only [i114_181, i114_182, i114_183, i114_186, i114_189, i114_190, i114_193, i114_196, i114_197, i114_200, i114_201, i114_202, i114_205, i114_206, i114_209, i114_210, i114_213, i114_216, i114_217, i114_220, i114_221, i114_222, in100, i100_0, i100_1, i100_4, i100_7, i100_8, i100_11, i100_12, nl_i, nl_r, nl_0, nl_j, nb0, nb1, nbI, orv_s, konN_v, konN_n, konN_e, true_and, and_true, and_self, if_true, if_false, ite_true, ite_false, isR_ref, true_or, or_true, bI_T, bI_F, bI_Fb, i1z, Bool.false_eq_true, k_140, f_140_1, f_140_8, f_140_9, f_140_10, f_140_11, f_140_15, f_140_0, f_140_2, f_140_3, f_140_4, f_140_5, f_140_6, f_140_7, f_140_12, f_140_13, f_140_14, w_140_0, w_140_2, w_140_3, w_140_4, w_140_5, w_140_6, w_140_7, w_140_12, w_140_13, w_140_14, k_141, l_141, a_141, wa_141, k_142, l_142, a_142, wa_142, k_143, l_143, a_143, wa_143, k_144, l_144, a_144, wa_144, pS_b, pS_up, mh_N, mh_S, mh_X, mh_alH, h6, upf_ne _ _ (show ¬ 5 = 7 by decide), h5, i1n0, r, c2, upf_same, ib_0, iz_0, z0]
theorem lr_bad (h5 : ¬ m 5 = 0) {w ln : Int32} : ∃ S4 : Nat → Nat → Int32, (∀ i, ¬ i = 140 → S4 i = S i) ∧ S4 140 2 = m 2 ∧ S4 140 7 = m 6 ∧ S4 140 12 = m 12 ∧ S4 140 0 = m 0 ∧
    ∀ d K, Ev (d + 25) 114 181 [some (.ref 140), some (.int w), some (.int ln)] [] (MH h T U (pS S 140 m) (upf A 143 D) J G) K = K (.inl (some (.int (m 5)))) (MH h T U S4 (upf A 143 D) J G) := by
  refine ⟨pS S 140 (upf m 7 (m 6)), fun i hi => funext fun k => pS_ne hi, rfl, rfl, rfl, rfl, fun d K => ?_⟩
  have n5 : (m 5 = 0) = False := eq_false h5
  simp only [i114_181, i114_182, i114_183, i114_186, i114_189, i114_190, i114_193, i114_196, i114_197, i114_200, i114_201, i114_202, i114_205, i114_206, i114_209, i114_210, i114_213, i114_216, i114_217, i114_220, i114_221, i114_222, in100, i100_0, i100_1, i100_4, i100_7, i100_8, i100_11, i100_12, nl_i, nl_r, nl_0, nl_j, nb0, nb1, nbI, orv_s, konN_v, konN_n, konN_e, true_and, and_true, and_self, if_true, if_false, ite_true, ite_false, isR_ref, true_or, or_true, bI_T, bI_F, bI_Fb, i1z, Bool.false_eq_true, k_140, f_140_1, f_140_8, f_140_9, f_140_10, f_140_11, f_140_15, f_140_0, f_140_2, f_140_3, f_140_4, f_140_5, f_140_6, f_140_7, f_140_12, f_140_13, f_140_14, w_140_0, w_140_2, w_140_3, w_140_4, w_140_5, w_140_6, w_140_7, w_140_12, w_140_13, w_140_14, k_141, l_141, a_141, wa_141, k_142, l_142, a_142, wa_142, k_143, l_143, a_143, wa_143, k_144, l_144, a_144, wa_144, pS_b, pS_up, mh_N, mh_S, mh_X, mh_alH, upf_ne _ _ (show ¬ 5 = 7 by decide), n5]
theorem o_load (hG : GR h T S A G) : JW (h, T, U, S, A, J, G) 165 114 [.int x] := by
  obtain ⟨fl, hfl, ⟨f1, f2⟩, -, hv⟩ := hG.2.2.1
  by_cases hx : 0 ≤ x ∧ x ≤ nI fl
  · obtain ⟨n, hn, rfl⟩ := rng_of hx.1 hx.2 (show fl < 2 ^ 31 by omega)
    obtain ⟨nx, kp, ⟨hn8, hk⟩, ⟨e1, e2, e3⟩, H⟩ := hG.2.2.2
    -- once, to see what the class leaves behind
    obtain ⟨v1, c1, -, -, r1, ⟨⟨j1, q1⟩, -⟩, -⟩ := ld_pass (U := U) (J := J) (c2 := (h, T, U, S, A, J, G)) (m2 := none) (ln := 0) (D0 := fun _ => 0) hG hn8 hk e1 e2 e3 H hfl f1 hv hn rfl (fun _ _ => rfl)
    obtain ⟨h1, T1, U1, S1, A1, J1, G1⟩ := c1
    have j1 : J1 = J := j1
    subst j1
    have p1 : ∀ i, 140 ≤ i → S1 i = S i ∧ A1 i = A i ∧ G1 i = G i := q1
    have r1 : ∀ d K, EvM (d + 30) 53 [.ref 0, .int (nI n)] (MH h T U S A J1 G) K = K (.inl (some (.int v1))) (MH h1 T1 U1 S1 A1 J1 G1) := r1
    -- and again, with the reference where the class ended
    obtain ⟨Jv, hJv⟩ : ∃ Jv, upf J1 155 (vp_updL (J1 155) 0 v1.toInt64) = Jv := ⟨_, rfl⟩
    obtain ⟨v2, c2, m', D', r2, ⟨⟨j2, q2⟩, ⟨y1, y2, y3, y4⟩, hh⟩, rf⟩ := ld_pass (U := U) (J := J1) (c2 := (h1, T1, U1, S1, A1, Jv, G1)) (m2 := some (.int (nI n))) (ln := nI 1451) (D0 := fun i => if 0 ≤ i ∧ i < 1451 then 0 else A1 143 i) hG hn8 hk e1 e2 e3 H hfl f1 hv hn (p1 141 (by omega)).2.1 (fun i hi => if_pos ⟨Nat.zero_le _, hi⟩)
    obtain ⟨h2, T2, U2, S2, A2, J2, G2⟩ := c2
    have j2 : J2 = J1 := j2
    subst j2
    have p2 : ∀ i, 140 ≤ i → S2 i = S i ∧ A2 i = A i ∧ G2 i = G i := q2
    have r2 : ∀ d K, EvM (d + 30) 53 [.ref 0, .int (nI n)] (MH h T U S A J2 G) K = K (.inl (some (.int v2))) (MH h2 T2 U2 S2 A2 J2 G2) := r2
    have E0 := ((r1 0 (fun o y => o = .inl (some (.int v2)) ∧ y = MH h2 T2 U2 S2 A2 J2 G2)).symm.trans (r2 0 (fun o y => o = .inl (some (.int v2)) ∧ y = MH h2 T2 U2 S2 A2 J2 G2))).mpr ⟨rfl, rfl⟩
    have ev : v1 = v2 := by
      have := E0.1
      injection this with t1
      injection t1 with t2
      injection t2
    have E := E0.2
    subst ev
    have w1 := wv165 (c := (h, T, U, S, A, J2, G)) (c1 := (h1, T1, U1, S1, A1, J2, G1)) r1
    have g140 : G1 140 = G2 140 := (p1 140 (by omega)).2.2.trans (p2 140 (by omega)).2.2.symm
    -- the reference
    have s2 : S1 140 2 = nI fl := by rw [(p1 140 (by omega)).1]; exact f2
    have s7 : S1 140 7 = S 140 7 := by rw [(p1 140 (by omega)).1]
    have s12 : S1 140 12 = S 140 12 := by rw [(p1 140 (by omega)).1]
    have ref : ∀ d K, EvM (d + 25) 114 [.ref 140, .int (nI n)] (MH h1 T1 U1 S1 A1 Jv G1) K = Ev (d + 25) 114 181 [some (.ref 140), some (.int (nI n)), some (.int (nI 1451))] [] (MH h1 T1 U1 (pS S1 140 m') (upf A1 143 D') Jv G1) K := fun d K => by
      rw [ld_ref hn hfl s2, s7, s12]
      exact rf d K
    have jv155 : Jv 155 = vp_updL (J2 155) 0 v1.toInt64 := by rw [← hJv]; exact upf_same _ _ _
    rcases hh with ⟨nz, z1, z2, z3, z4, fin⟩ | ⟨z1, z2, fin⟩
    · obtain ⟨S4, A4, b1, b2, b3, b4, b0, b5, b6, b7, b8, rr⟩ := lr_ok (h := h1) (T := T1) (U := U1) (S := S1) (A := A1) (J := Jv) (G := G1) (m := m') (D := D') (kp := kp) (m2 := none) (w := nI n) (ln := nI 1451) (Or.inr trivial) z1 z2 (y4.trans e3) hk
      have f2' := fin (fun i k => if i = 140 then S4 140 k else S2 i k) (fun i => if i < 140 then A2 i else A4 i) Jv (fun i hi => funext fun k => if_neg hi) (b2.trans y2) b3 b4 (fun i hi => if_pos hi)
        (by rw [if_neg (by omega)]; rw [(p1 142 (by omega)).2.1] at b6; exact b6) (fun i hi => by rw [if_neg (show ¬ 146 + i < 140 by omega)]; have := b7 i hi; rw [(p1 _ (by omega)).2.1] at this; exact this) b8
      have Ef : MH h1 T1 U1 S4 A4 Jv G1 = MH h2 T2 U2 (fun i k => if i = 140 then S4 140 k else S2 i k) (fun i => if i < 140 then A2 i else A4 i) Jv G2 := mh_sw E b1 (fun i hi => funext fun k => if_neg hi) (funext fun k => (if_pos rfl).symm) g140 b5 (fun i hi => if_pos hi) (fun i hi => (if_neg hi).symm)
      refine JW_v (c := (h, T, U, S, A, J2, G)) (v := v1) (c1 := (h1, T1, U1, S1, A1, J2, G1)) (c2 := (h2, T2, U2, fun i k => if i = 140 then S4 140 k else S2 i k, fun i => if i < 140 then A2 i else A4 i, Jv, G2)) w1 (fun d K => ?_) f2' (b0.trans y1) jv155 ((congrArg (fun x => x.2.2.2.2.2.2.2) E).trans f2'.2.2.2.2)
      show EvM (d + 40) 114 [.ref 140, .int (nI n)] (MH h1 T1 U1 S1 A1 (upf J2 155 (vp_updL (J2 155) 0 v1.toInt64)) G1) K = K (.inl (some (.int v1))) (MH h2 T2 U2 (fun i k => if i = 140 then S4 140 k else S2 i k) (fun i => if i < 140 then A2 i else A4 i) Jv G2)
      rw [hJv, ← Ef]
      have a := ref (d + 15) K
      have b := rr (d + 15) K
      rw [z4, ← z3] at b
      exact a.trans b
    · obtain ⟨S4, b1, b2, b3, b4, b0, rr⟩ := lr_bad (h := h1) (T := T1) (U := U1) (S := S1) (A := A1) (J := Jv) (G := G1) (m := m') (D := D') (w := nI n) (ln := nI 1451) z1
      have f2' := fin (fun i k => if i = 140 then S4 140 k else S2 i k) (fun i => if i < 140 then A2 i else upf A1 143 D' i) Jv (fun i hi => funext fun k => if_neg hi) (b2.trans y2) b3 (b4.trans y4) (fun i hi => if_pos hi)
        (fun i h1 h2 => by rw [if_neg (by omega), upf_ne _ _ h2]; exact (p1 i (by omega)).2.1)
      have Ef : MH h1 T1 U1 S4 (upf A1 143 D') Jv G1 = MH h2 T2 U2 (fun i k => if i = 140 then S4 140 k else S2 i k) (fun i => if i < 140 then A2 i else upf A1 143 D' i) Jv G2 := mh_sw E b1 (fun i hi => funext fun k => if_neg hi) (funext fun k => (if_pos rfl).symm) g140 (fun i hi => upf_ne _ _ (by omega)) (fun i hi => if_pos hi) (fun i hi => (if_neg hi).symm)
      refine JW_v (c := (h, T, U, S, A, J2, G)) (v := v1) (c1 := (h1, T1, U1, S1, A1, J2, G1)) (c2 := (h2, T2, U2, fun i k => if i = 140 then S4 140 k else S2 i k, fun i => if i < 140 then A2 i else upf A1 143 D' i, Jv, G2)) w1 (fun d K => ?_) f2' (b0.trans y1) jv155 ((congrArg (fun x => x.2.2.2.2.2.2.2) E).trans f2'.2.2.2.2)
      show EvM (d + 40) 114 [.ref 140, .int (nI n)] (MH h1 T1 U1 S1 A1 (upf J2 155 (vp_updL (J2 155) 0 v1.toInt64)) G1) K = K (.inl (some (.int v1))) (MH h2 T2 U2 (fun i k => if i = 140 then S4 140 k else S2 i k) (fun i => if i < 140 then A2 i else upf A1 143 D' i) Jv G2)
      rw [hJv, ← Ef]
      have a := ref (d + 15) K
      have b := rr (d + 15) K
      rw [← z2] at b
      exact a.trans b
  · refine je165_0 (b := 0) hG (fun d K => ?_) (fun d K => ?_)
    · simp only [i53_0, i53_1, i53_2, i53_3, i53_6, i53_9, in53, nl_i, nl_r, nl_0, nl_j, nb0, nb1, nbI, orv_s, konN_v, konN_n, konN_e, true_and, and_true, and_self, if_true, if_false, ite_true, ite_false, isR_ref, true_or, or_true, bI_T, bI_F, bI_Fb, i1z, Bool.false_eq_true, k_13, k_14, l_14, a_14, wa_14, k_15, l_15, a_15, wa_15, f_13_0, f_13_9, f_13_11, w_13_9, f_13_1, f_13_2, f_13_3, f_13_4, f_13_5, f_13_6, f_13_7, f_13_8, f_13_10, f_13_12, w_13_1, w_13_2, w_13_3, w_13_4, w_13_5, w_13_6, w_13_7, w_13_8, w_13_10, w_13_12, pS_b, pS_up, mh_N, mh_S, mh_X, mh_alH, k_0, f_0_0, f1, s_ra1 hx]
    · simp only [i114_0, i114_1, i114_2, i114_5, i114_6, i114_7, i114_8, i114_9, i114_12, i114_15, i114_18, i114_19, i114_22, i114_23, i114_24, i114_27, i114_30, i114_31, in114, nl_i, nl_r, nl_0, nl_j, nb0, nb1, nbI, orv_s, konN_v, konN_n, konN_e, true_and, and_true, and_self, if_true, if_false, ite_true, ite_false, isR_ref, true_or, or_true, bI_T, bI_F, bI_Fb, i1z, Bool.false_eq_true, k_140, f_140_1, f_140_8, f_140_9, f_140_10, f_140_11, f_140_15, f_140_0, f_140_2, f_140_3, f_140_4, f_140_5, f_140_6, f_140_7, f_140_12, f_140_13, f_140_14, w_140_0, w_140_2, w_140_3, w_140_4, w_140_5, w_140_6, w_140_7, w_140_12, w_140_13, w_140_14, k_141, l_141, a_141, wa_141, k_142, l_142, a_142, wa_142, k_143, l_143, a_143, wa_143, k_144, l_144, a_144, wa_144, pS_b, pS_up, mh_N, mh_S, mh_X, mh_alH, up2_ne (show ¬ (140 = 140 ∧ 2 = 0) by decide), f2, s_in1 hx, i1n0, s_fl1 (show ¬ (1 : Int32) = 0 by decide)]
end LZ
