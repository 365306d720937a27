/-! FACE: load, one description of both runs -/
section LP
variable {h : AH} {T : Nat → Bool} {U S A : Nat → Nat → Int32} {J J2 : Nat → Nat → Int64} {G : Nat → Nat} {c2 : HP} {D0 : Nat → Int32} {n fl nx kp : Nat} {ln : Int32} {m2 : Option Value}
/-- what the class leaves behind, ready for the reference's changes -/
def LF (h : AH) (T : Nat → Bool) (U S A : Nat → Nat → Int32) (J : Nat → Nat → Int64) (G : Nat → Nat) (kp : Nat) (cF : HP) (m' D' : Nat → Int32) (v : Int32) : Prop :=
  (cF.2.2.2.2.2.1 = J ∧ ∀ i, 140 ≤ i → cF.2.2.2.1 i = S i ∧ cF.2.2.2.2.1 i = A i ∧ cF.2.2.2.2.2.2 i = G i) ∧ (m' 0 = 0 ∧ m' 2 = 0 ∧ m' 7 = S 140 7 ∧ m' 12 = S 140 12) ∧
  ((∃ nz, m' 5 = 0 ∧ m' 6 = -1 ∧ v = nI nz ∧ D' 0 = nI nz ∧ ∀ (S4 A4 : Nat → Nat → Int32) (J4 : Nat → Nat → Int64), (∀ i, ¬ i = 140 → S4 i = cF.2.2.2.1 i) → S4 140 2 = 0 → S4 140 7 = -1 → S4 140 12 = nI (min (kp + 1) 8) → (∀ i, i < 140 → A4 i = cF.2.2.2.2.1 i) →
      deq (A 142) (A4 (146 + (min (kp + 1) 8 - 1))) → (∀ i, i + 1 < min (kp + 1) 8 → deq (A (146 + (if kp = 8 then i + 1 else i))) (A4 (146 + i))) → deq D' (A4 142) → GN (h, T, U, S, A, J, G) (cF.1, cF.2.1, cF.2.2.1, S4, A4, J4, cF.2.2.2.2.2.2)) ∨
    (¬ m' 5 = 0 ∧ v = m' 5 ∧ ∀ (S4 A4 : Nat → Nat → Int32) (J4 : Nat → Nat → Int64), (∀ i, ¬ i = 140 → S4 i = cF.2.2.2.1 i) → S4 140 2 = 0 → S4 140 7 = m' 6 → S4 140 12 = S 140 12 → (∀ i, i < 140 → A4 i = cF.2.2.2.2.1 i) →
      (∀ i, 142 ≤ i → ¬ i = 143 → A4 i = A i) → GN (h, T, U, S, A, J, G) (cF.1, cF.2.1, cF.2.2.1, S4, A4, J4, cF.2.2.2.2.2.2)))
theorem ld_pass (hG : GR h T S A G) (hn8 : nx < 8) (hk : kp ≤ 8) (e1 : S 50 1 = nI nx) (e2 : S 50 2 = nI kp) (e3 : S 140 12 = nI kp) (H : ∀ i, i < kp → LR h T (G (rwI nx kp i)) (S (rwI nx kp i)) (fun j => A (rwI nx kp i + j)) (A (146 + i)))
    (hfl : fl ≤ 700) (f1 : S 13 1 = nI fl) (hv : bV (A 14) (A 141) fl) (hn : n ≤ fl) (hg : rB c2 = A 141) (hD : ∀ i, i < 1451 → D0 i = 0) :
    ∃ (v : Int32) (cF : HP) (m' D' : Nat → Int32), (∀ d K, EvM (d + 30) 53 [.ref 0, .int (nI n)] (MH h T U S A J G) K = K (.inl (some (.int v))) (mH cF)) ∧ LF h T U S A J G kp cF m' D' v ∧
      ∀ d K, Ev (d + 25) 114 89 [some (.ref 140), m2, some (.int ln)] [] (rH c2 (rm n 0 0 (S 140 7) (S 140 12) 0) D0) K = Ev (d + 25) 114 181 [some (.ref 140), m2, some (.int ln)] [] (rH c2 m' D') K := by
  have hx : 0 ≤ nI n ∧ nI n ≤ nI fl := ⟨nI_nn (by omega), (nI_leI (a := n) (b := fl) (by omega) (by omega)).mpr hn⟩
  have start : ∀ d K, EvM (d + 30) 53 [.ref 0, .int (nI n)] (MH h T U S A J G) K = Ev (d + 30) 53 12 [some (.ref 0), some (.int (nI n))] [] (MH h T U S A J G) K := fun d K => by
    simp only [i53_0, i53_1, i53_2, i53_3, i53_6, i53_9, in53, nl_i, nl_r, nl_0, nl_j, nb0, nb1, nbI, orv_s, konN_v, konN_n, konN_e, true_and, and_true, and_self, if_true, if_false, ite_true, ite_false, isR_ref, true_or, or_true, bI_T, bI_F, bI_Fb, i1z, Bool.false_eq_true, k_13, k_14, l_14, a_14, wa_14, k_15, l_15, a_15, wa_15, f_13_0, f_13_9, f_13_11, w_13_9, f_13_1, f_13_2, f_13_3, f_13_4, f_13_5, f_13_6, f_13_7, f_13_8, f_13_10, f_13_12, w_13_1, w_13_2, w_13_3, w_13_4, w_13_5, w_13_6, w_13_7, w_13_8, w_13_10, w_13_12, pS_b, pS_up, mh_N, mh_S, mh_X, mh_alH, k_0, f_0_0, f1, s_ra0 hx]
  obtain ⟨⟨h156, hT⟩, gL, gR, gH⟩ := hG
  have hb := hb28
  rcases ld_read (c := (h, T, U, S, A, J, G)) (c2 := c2) (D0 := D0) (n := n) (fl := fl) (ob := S 140 7) (ud := S 140 12) (ln := ln) (m2 := m2) hg (fun k hk => hv k (by omega)) hn hfl f1 h156 hT hD with
    ⟨c', t', q', a', nn', pg', D', hs', sn', nz', r', st', m', x1, x2, x3, x4, ⟨y1, y2, y3, y4, y5, y6⟩, ⟨w1, w2⟩, cl, rf⟩ | ⟨c', q', a', t', r', st', m', D', x1, x2, cl, rf⟩
  · obtain ⟨h', T', U', w⟩ := c'
    have ew : w = (S, A, J, upf G 13 (hN h)) := x1.2.2.2.2.2.2.2
    subst ew
    obtain ⟨u1, u2, u3, u4, u5, u6, u7, -⟩ := x1
    obtain ⟨v1, v2, v3, v4, v5, v6, v7⟩ := x2
    have u1 : fr (hN (hB h)) (hB h) h' := u1
    have u2 : frT (hN (hB h)) (tAdd T (hN h + 11)) T' := u2
    have u3 : hN (hB h) ≤ hN h' := u3
    have u4 : hN h' ≤ hN (hB h) + 3 := u4
    have u5 : hS h' ≤ hS (hB h) + 713 := u5
    have u6 : hX h' = hX (hB h) := u6
    rw [hB_N] at u3 u4
    rw [hB_S] at u5
    rw [hB_X] at u6
    have hU : SUp (SP h' (hN h) q' a' t') T' (hN h) t' q' a' nn' pg' := sup_of v1 v2 v3 (by rw [x3.1.1]; exact ⟨nI_nn (by have := x3.1.2.1; omega), by rw [show zn (nI nz') = nz' from zn_nI (by have := x3.1.2.1; omega)]; exact x3.1.2.1⟩)
    have frh : fr (hN h) h (SP h' (hN h) q' a' t') := fr_tr hB_fr (fr_tr (fun i hi => u1 i (by rw [hB_N]; omega)) (fr_SP (Nat.le_refl _)) (Nat.le_refl _)) (Nat.le_refl _)
    have frt : frT (hN h) T T' := fun i hi => by
      rw [u2 i (by rw [hB_N]; omega)]
      unfold tAdd
      rw [decide_eq_false (by omega), Bool.or_false]
    obtain ⟨S1, hS1⟩ : ∃ S1, pS S 13 r' = S1 := ⟨_, rfl⟩
    obtain ⟨A1, hA1⟩ : ∃ A1, upf A 15 st' = A1 := ⟨_, rfl⟩
    obtain ⟨G1, hG1⟩ : ∃ G1, upf G 13 (hN h) = G1 := ⟨_, rfl⟩
    have so : ∀ i, ¬ i = 13 → S1 i = S i := fun i hi => by
      rw [← hS1]
      exact funext fun k => pS_ne hi
    have ao : ∀ i, ¬ i = 15 → A1 i = A i := fun i hi => by rw [← hA1, upf_ne _ _ hi]
    have go : ∀ i, ¬ i = 13 → G1 i = G i := fun i hi => by rw [← hG1, upf_ne _ _ hi]
    have g13 : G1 13 = hN h := by rw [← hG1, upf_same]
    have s13 : S1 13 = r' := by
      rw [← hS1]
      exact funext fun k => if_pos rfl
    have gr13 : Gr G1 nx 13 = hN h := by
      unfold Gr
      rw [upf_ne _ _ (by omega), g13]
    obtain ⟨F, hF⟩ : ∃ F, startL a' (S1 28) (fun j => A1 (28 + j)) = F := ⟨_, rfl⟩
    have hl' := LR_start (f := S1 28) (a := fun j => A1 (28 + j)) hU (by rw [sp_N]; omega) (by rw [sp_N]; have v4 : t' + 3 ≤ hN h' := v4; omega) x3 x4
    rw [hF] at hl'
    have cl' : ∀ d K, Ev (d + 30) 53 12 [some (.ref 0), some (.int (nI n))] [] (MH h T U S A J G) K = Ev (d + 30) 53 48 [some (.ref 0), some (.int (nI n))] [] (MH (SP h' (hN h) q' a' t') T' U' S1 A1 J G1) K := fun d K => by
      rw [← hS1, ← hA1, ← hG1]
      exact cl d K
    have rmb := fun d K => p_remember (d := d) (h := SP h' (hN h) q' a' t') (T := T') (U := U') (S := S1) (A := A1) (J := J) (G := G1) (K := K) (by rw [so 50 (by decide)]; exact e1) hn8 (by rw [so 50 (by decide)]; exact e2) hk
    have stw := fun d K => s_startWith (d := d) (h := SP h' (hN h) q' a' t') (T := T') (U := U') (S := Sr S1 nx kp) (A := Ar A1 nx) (J := J) (G := Gr G1 nx) (K := K) (f := S1 28) (a := fun j => A1 (28 + j)) hb hU
    rw [hF] at stw
    refine ⟨nI nz', (SP h' (hN h) q' a' t', T', U', pS (Sr S1 nx kp) 28 F.1, pA (Ar A1 nx) 28 F.2, J, upf (Gr G1 nx) 28 (hN h)), m', D', fun d K => ?_, ⟨⟨rfl, fun i hi => ⟨?_, ?_, ?_⟩⟩, ⟨y3, y4, y5, y6⟩, Or.inl ⟨nz', y1, y2, rfl, x3.1.2.2, fun S4 A4 J4 b1 b2 b3 b4 b5 b6 b7 b8 => ⟨?_, ?_, ?_, ?_, ?_⟩⟩⟩, rf⟩
    · show EvM (d + 30) 53 [.ref 0, .int (nI n)] (MH h T U S A J G) K = K (.inl (some (.int (nI nz')))) (MH (SP h' (hN h) q' a' t') T' U' (pS (Sr S1 nx kp) 28 F.1) (pA (Ar A1 nx) 28 F.2) J (upf (Gr G1 nx) 28 (hN h)))
      rw [start, cl']
      simp only [i53_48, i53_49, i53_52, i53_53, i53_56, i53_59, i53_60, i53_63, i53_64, i53_67, i53_70, i53_73, i53_74, i53_77, i53_80, i53_83, nl_i, nl_r, nl_0, nl_j, nb0, nb1, nbI, orv_s, konN_v, konN_n, konN_e, true_and, and_true, and_self, if_true, if_false, ite_true, ite_false, isR_ref, true_or, or_true, bI_T, bI_F, bI_Fb, i1z, Bool.false_eq_true, k_l0 hb, k_l1 hb, k_l2 hb, k_l3 hb, k_l4 hb, k_l5 hb, k_l6 hb, k_l7 hb, k_l8 hb, k_l9 hb, k_l10 hb, l_l1 hb, l_l2 hb, l_l3 hb, l_l4 hb, l_l5 hb, l_l6 hb, l_l7 hb, l_l8 hb, l_l9 hb, l_l10 hb, a_l1 hb, a_l2 hb, a_l3 hb, a_l4 hb, a_l5 hb, a_l6 hb, a_l7 hb, a_l8 hb, a_l9 hb, a_l10 hb, wa_l1 hb, wa_l2 hb, wa_l3 hb, wa_l4 hb, wa_l5 hb, wa_l6 hb, wa_l7 hb, wa_l8 hb, wa_l9 hb, wa_l10 hb, f_l0 hb, f_l1 hb, f_l2 hb, f_l3 hb, f_l4 hb, f_l5 hb, f_l6 hb, f_l7 hb, f_l8 hb, f_l9 hb, f_l10 hb, f_l11 hb, f_l12 hb, f_l13 hb, f_l14 hb, w_l0 hb, w_l1 hb, w_l2 hb, w_l3 hb, w_l4 hb, pS_b, pS_up, pA_1, pA_2, pA_3, pA_4, pA_5, pA_6, pA_7, pA_8, pA_9, pA_10, pU_1, pU_2, pU_3, pU_4, pU_5, pU_6, pU_7, pU_8, pU_9, pU_10, mh_N, mh_S, mh_X, mh_alH, k_0, f_0_0, f_0_1, f_0_3, k_13, f_13_9, k_50, rmb, gr13, stw, upf_same, su_k hU, su_f0 hU, x3.1.1]
    · show pS (Sr S1 nx kp) 28 F.1 i = S i
      rw [show pS (Sr S1 nx kp) 28 F.1 i = Sr S1 nx kp i from funext fun k => pS_ne (by omega), sr_b (by omega) (by omega), so i (by omega)]
    · show pA (Ar A1 nx) 28 F.2 i = A i
      rw [pA_o (by omega)]
      unfold Ar
      rw [pA_o (by omega), ao i (by omega)]
    · show upf (Gr G1 nx) 28 (hN h) i = G i
      rw [upf_ne _ _ (by omega)]
      unfold Gr
      rw [upf_ne _ _ (by omega), go i (by omega)]
    · show GR (SP h' (hN h) q' a' t') T' S4 A4 (upf (Gr G1 nx) 28 (hN h))
      have s4 : ∀ i, ¬ i = 140 → ¬ i = 28 → S4 i = Sr S1 nx kp i := fun i i1 i2 => (b1 i i1).trans (funext fun k => pS_ne i2)
      have s413 : S4 13 = r' := (s4 13 (by decide) (by decide)).trans ((sr_b (by omega) (by omega)).trans s13)
      have a1h : ∀ i, 140 ≤ i → A1 i = A i := fun i hi => ao i (by omega)
      refine GR_chg (G := G1) (S := S1) (A := A1) (nx := nx) (kp := kp) h156 frh frt (by rw [sp_N]; omega) v7 ⟨0, by omega, ⟨by rw [s413, w1]; rfl, b2⟩, by rw [s413, w2, b3], fun k hk => absurd hk (by omega)⟩ hn8 hk ?_ (fun i hi => ?_) (fun b k c1 c2 => by rw [s4 b (by omega) (by omega)]) b4 (fun i c1 c2 => ?_) (by rw [a1h 142 (by omega)]; exact b6) (fun i hi => by rw [a1h _ (by omega)]; exact b7 i hi) ?_
      · rw [go 28 (by decide), so 28 (by decide), a1h 142 (by omega)]
        exact LR_cg gL fr_id frT_id (Nat.le_refl _) (fun j j1 j2 => ao _ (by omega)) deq_id
      · have hr := rwI_le (nx := nx) (kp := kp) (i := i)
        rw [go _ (by omega), so _ (by omega), a1h _ (by omega)]
        exact LR_cg (H i hi) fr_id frT_id (Nat.le_refl _) (fun j j1 j2 => ao _ (by omega)) deq_id
      · rw [b5 i (by omega)]
        exact pA_o (by omega)
      · rw [show S4 28 = F.1 from (b1 28 (by decide)).trans (show pS (Sr S1 nx kp) 28 F.1 28 = F.1 from funext fun k => if_pos rfl)]
        exact LR_cg hl' fr_id frT_id (Nat.le_refl _) (fun j j1 j2 => by
          rw [b5 _ (by omega)]
          exact pA_g j1 j2) b8
    · show hN h ≤ hN h'
      omega
    · show hN h' ≤ hN h + 16
      omega
    · show hS h' ≤ hS h + 1000
      omega
    · show hX h' = hX h
      exact u6
  · obtain ⟨h', T', U', w⟩ := c'
    have ew : w = (S, A, J, upf G 13 (hN h)) := x1.2.2.2.2.2.2.2
    subst ew
    obtain ⟨u1, u2, u3, u4, u5, u6, u7, -⟩ := x1
    have u1 : fr (hN (hB h)) (hB h) h' := u1
    have u2 : frT (hN (hB h)) (tAdd T (hN h + 11)) T' := u2
    have u3 : hN (hB h) ≤ hN h' := u3
    have u4 : hN h' ≤ hN (hB h) + 3 := u4
    have u5 : hS h' ≤ hS (hB h) + 713 := u5
    have u6 : hX h' = hX (hB h) := u6
    rw [hB_N] at u3 u4
    rw [hB_S] at u5
    rw [hB_X] at u6
    obtain ⟨y1, y2, y3, y4, y5, y6, y7, y8⟩ := x2
    have frh : fr (hN h) h (SP h' (hN h) q' a' t') := fr_tr hB_fr (fr_tr (fun i hi => u1 i (by rw [hB_N]; omega)) (fr_SP (Nat.le_refl _)) (Nat.le_refl _)) (Nat.le_refl _)
    have frt : frT (hN h) T T' := fun i hi => by
      rw [u2 i (by rw [hB_N]; omega)]
      unfold tAdd
      rw [decide_eq_false (by omega), Bool.or_false]
    obtain ⟨S1, hS1⟩ : ∃ S1, pS S 13 r' = S1 := ⟨_, rfl⟩
    obtain ⟨A1, hA1⟩ : ∃ A1, upf A 15 st' = A1 := ⟨_, rfl⟩
    obtain ⟨G1, hG1⟩ : ∃ G1, upf G 13 (hN h) = G1 := ⟨_, rfl⟩
    have so : ∀ i, ¬ i = 13 → S1 i = S i := fun i hi => by
      rw [← hS1]
      exact funext fun k => pS_ne hi
    have ao : ∀ i, ¬ i = 15 → A1 i = A i := fun i hi => by rw [← hA1, upf_ne _ _ hi]
    have go : ∀ i, ¬ i = 13 → G1 i = G i := fun i hi => by rw [← hG1, upf_ne _ _ hi]
    have g13 : G1 13 = hN h := by rw [← hG1, upf_same]
    have s13 : S1 13 = r' := by
      rw [← hS1]
      exact funext fun k => if_pos rfl
    refine ⟨r' 7, (SP h' (hN h) q' a' t', T', U', S1, A1, J, G1), m', D', fun d K => ?_, ⟨⟨rfl, fun i hi => ⟨so i (by omega), ao i (by omega), go i (by omega)⟩⟩, ⟨y5, y6, y7, y8⟩, Or.inr ⟨y1, y2, fun S4 A4 J4 b1 b2 b3 b4 b5 b6 => ⟨?_, ?_, ?_, ?_, ?_⟩⟩⟩, rf⟩
    · rw [start, ← hS1, ← hA1, ← hG1]
      exact cl d K
    · show GR (SP h' (hN h) q' a' t') T' S4 A4 G1
      have s4 : ∀ i, ¬ i = 140 → ¬ i = 13 → S4 i = S i := fun i i1 i2 => (b1 i i1).trans (so i i2)
      have a4 : ∀ i, i < 140 → ¬ i = 15 → A4 i = A i := fun i i1 i2 => (b5 i i1).trans (ao i i2)
      have s413 : S4 13 = r' := (b1 13 (by decide)).trans s13
      refine ⟨⟨by rw [sp_N]; omega, u7⟩, ?_, ⟨0, by omega, ⟨by rw [s413, y4]; rfl, b2⟩, by rw [s413, y3, b3], fun k hk => absurd hk (by omega)⟩, HR_cg gH frh frt (by rw [sp_N]; omega) (fun b k c1 c2 => by rw [s4 b (by omega) (by omega)]) b4 (fun i c1 c2 => a4 i (by omega) (by omega)) (fun i c1 c2 => by rw [b6 i (by omega) (by omega)]; exact deq_id) (fun i c1 c2 => go i (by omega))⟩
      rw [go 28 (by decide), s4 28 (by decide) (by decide), b6 142 (by omega) (by decide)]
      exact LR_cg gL frh frt (by rw [sp_N]; omega) (fun j j1 j2 => a4 _ (by omega) (by omega)) deq_id
    · show hN h ≤ hN h'
      omega
    · show hN h' ≤ hN h + 16
      omega
    · show hS h' ≤ hS h + 1000
      omega
    · show hX h' = hX h
      exact u6
end LP
