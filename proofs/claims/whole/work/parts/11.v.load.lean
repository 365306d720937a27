/-! FACE: load, the reading -/
section LD
variable {d : Nat} {c c2 : HP} {g D0 : Nat → Int32} {n fl : Nat} {ob ud ln : Int32} {m2 : Option Value} {K : AO → AH → Prop}
theorem mH_cH : mH c = cH c (c.2.2.2.1 13) (c.2.2.2.2.1 15) := by
  unfold mH cH
  rw [pS_id, upf_id]
theorem bC_cG (h156 : 156 ≤ hN c.1) (hT : ∀ i, hN c.1 ≤ i → c.2.1 i = false) : cG (bC c) (hN c.1) (hN c.1 + 9) 3 usual := by
  refine ⟨hB_SB h156 hT, hB_HT h156 hT, by omega, ?_, h156, (show upf c.2.2.2.2.2.2 13 (hN c.1) 13 = hN c.1 from upf_same _ _ _), fun i hi => ?_⟩
  · show hN c.1 + 9 + 3 ≤ hN (hB c.1)
    rw [hB_N]
    omega
  · have hi : hN (hB c.1) ≤ i := hi
    rw [hB_N] at hi
    show tAdd c.2.1 (hN c.1 + 11) i = false
    unfold tAdd
    rw [hT i (by omega), decide_eq_false (by omega)]
    rfl
theorem dj0 (hD : ∀ i, i < 1451 → D0 i = 0) {v1 v2 : Int32} (r1 : 1 ≤ v1 ∧ v1 ≤ 9) (r2 : 0 ≤ v2 ∧ v2 ≤ 20) : DJ (upf (upf (fun _ => 0) 1 v1) 2 v2) a0 3 usual (upd (upd D0 3 v1) 4 v2) 0 0 0 := by
  have z : ∀ i, i < 1451 → ¬ i = 3 → ¬ i = 4 → upd (upd D0 3 v1) 4 v2 i = 0 := fun i h1 h2 h3 => by
    rw [upd_nz h3, upd_nz h2, hD i h1]
  refine ⟨⟨rfl, by omega, z 0 (by omega) (by omega) (by omega)⟩, ⟨z 1 (by omega) (by omega) (by omega), z 2 (by omega) (by omega) (by omega), z 5 (by omega) (by omega) (by omega)⟩, ⟨?_, ?_, r1, r2⟩, fun z hz => absurd hz (by omega), fun y hy => z _ (by omega) (by omega) (by omega), fun k hk => ⟨⟨z _ (by omega) (by omega) (by omega), z _ (by omega) (by omega) (by omega), z _ (by omega) (by omega) (by omega), z _ (by omega) (by omega) (by omega)⟩, Or.inl ⟨z _ (by omega) (by omega) (by omega), ?_, ?_⟩⟩, Or.inl ⟨z 7 (by omega) (by omega) (by omega), rfl, rfl, rfl, rfl⟩, Or.inl ⟨rfl, rfl, z 8 (by omega) (by omega) (by omega)⟩⟩
  · rw [upd_nz (by omega), upd_eq]
    rfl
  · rw [upd_eq]
    rfl
  · show m1row k = -1
    exact (congrFun (itn_up (w := fun _ => -1) 20 0 (fun _ => 0)) k).trans (if_pos ⟨Nat.zero_le _, by omega⟩)
  · show m1row k = -1
    exact (congrFun (itn_up (w := fun _ => -1) 20 0 (fun _ => 0)) k).trans (if_pos ⟨Nat.zero_le _, by omega⟩)
theorem ld_read (hg : rB c2 = c.2.2.2.2.1 141) (hv : bV (cB c) (c.2.2.2.2.1 141) n) (hn : n ≤ fl) (hfl : fl ≤ 700) (h1 : c.2.2.2.1 13 1 = nI fl) (h156 : 156 ≤ hN c.1) (hT : ∀ i, hN c.1 ≤ i → c.2.1 i = false) (hD : ∀ i, i < 1451 → D0 i = 0) :
    (∃ c' t' q' a' nn' pg' D' hs' sn' nz' r' st' m', cE (bC c) c' 3 713 ∧ cG c' (hN c.1) t' nn' pg' ∧ DJ q' a' nn' pg' D' hs' sn' nz' ∧ 0 < nz' ∧ (m' 5 = 0 ∧ m' 6 = -1 ∧ m' 0 = 0 ∧ m' 2 = 0 ∧ m' 7 = ob ∧ m' 12 = ud) ∧ (r' 1 = 0 ∧ r' 8 = -1) ∧
      (∀ d K, Ev (d + 30) 53 12 [some (.ref 0), some (.int (nI n))] [] (mH c) K = Ev (d + 30) 53 48 [some (.ref 0), some (.int (nI n))] [] (cH (zC c' (hN c.1) q' a' t') r' st') K) ∧
      ∀ d K, Ev (d + 25) 114 89 [some (.ref 140), m2, some (.int ln)] [] (rH c2 (rm n 0 0 ob ud 0) D0) K = Ev (d + 25) 114 181 [some (.ref 140), m2, some (.int ln)] [] (rH c2 m' D') K) ∨
    (∃ c' q' a' t' r' st' m' D', cE (bC c) c' 3 713 ∧ eEq r' m' ob ud ∧
      (∀ d K, Ev (d + 30) 53 12 [some (.ref 0), some (.int (nI n))] [] (mH c) K = K (.inl (some (.int (r' 7)))) (cH (zC c' (hN c.1) q' a' t') r' st')) ∧
      ∀ d K, Ev (d + 25) 114 89 [some (.ref 140), m2, some (.int ln)] [] (rH c2 (rm n 0 0 ob ud 0) D0) K = Ev (d + 25) 114 181 [some (.ref 140), m2, some (.int ln)] [] (rH c2 m' D') K) := by
  have hn7 : n ≤ 700 := by omega
  have hcG := bC_cG h156 hT
  obtain ⟨sc, hb⟩ := s_begin (st := c.2.2.2.2.1 15) (g := c.2.2.2.2.1 141) hn hfl h1 h156 hT hv
  have hvb : bV (cB (bC c)) (c.2.2.2.2.1 141) n := hv
  have k0 : ∀ {r st} {c : HP}, hk (cH c r st) 0 = 6 := k_0
  have f00 : ∀ {r st} {c : HP}, hF (cH c r st) 0 0 = .ref 13 := f_0_0
  have k13 : ∀ {r st} {c : HP}, hk (cH c r st) 13 = 5 := k_13
  have f137 : ∀ {r st} {c : HP}, hF (cH c r st) 13 7 = .int (r 7) := fun {r st c} => f_13_7.trans (by rw [pS_b])
  have cl1 : ∀ d K, Ev (d + 30) 53 12 [some (.ref 0), some (.int (nI n))] [] (mH c) K = Ev (d + 30) 53 20 [some (.ref 0), some (.int (nI n))] [] (cH (zC (bC c) (hN c.1) (fun _ => 0) a0 (hN c.1 + 9)) (rd (c.2.2.2.2.1 141) n (skT (c.2.2.2.2.1 141) n 0) (c.2.2.2.1 13 6) (c.2.2.2.1 13 7) 0 sc) (c.2.2.2.2.1 15)) K := fun d K => by
    rw [mH_cH]
    simp only [i53_12, i53_13, i53_16, i53_17, nl_i, nl_r, nl_0, nl_j, nb0, nb1, nbI, orv_s, konN_v, konN_n, konN_e, true_and, and_true, and_self, if_true, if_false, ite_true, ite_false, isR_ref, true_or, or_true, bI_T, bI_F, bI_Fb, i1z, Bool.false_eq_true, k0, f00, k13, hb]
  rcases j_head (c := bC c) (c2 := c2) (ec := c.2.2.2.1 13 7) (ob := ob) (ud := ud) (s := hN c.1) (t := hN c.1 + 9) (sc := sc) (q := fun _ => 0) (st := c.2.2.2.2.1 15) (D := D0) (a := a0) (nu := c.2.2.2.1 13 6) (ln := ln) (m2 := m2) hvb hg hn7 hcG.1 (show upf c.2.2.2.2.2.2 13 (hN c.1) 13 = hN c.1 from upf_same _ _ _) with ⟨v1, v2, x', x0, xn, r1, r2, cr, rr⟩ | ⟨q', r', m', D', he, cr, rr⟩
  · rcases j_stmts (c2 := c2) (ec := c.2.2.2.1 13 7) (ob := ob) (ud := ud) hg hn7 (ln := ln) (m2 := m2) (n - x' + 1) (bC c) (hN c.1) (hN c.1 + 9) 3 x' 0 0 sc (upf (upf (fun _ => 0) 1 v1) 2 v2) usual (c.2.2.2.2.1 15) (upd (upd D0 3 v1) 4 v2) a0 0 0 v2 none hvb (by omega) hcG (dj0 hD r1 r2) xn (Nat.zero_le _) with ⟨c', t', q', a', nn', pg', D', hs', sn', nz', nu', sc', st', m', e1, e2, e3, e4, e5, cs, rs⟩ | ⟨c', q', a', t', r', st', m', D', e1, e2, cs, rs⟩
    · refine Or.inl ⟨c', t', q', a', nn', pg', D', hs', sn', nz', rd (c.2.2.2.2.1 141) n n nu' (c.2.2.2.1 13 7) hs' sc', st', m', e1, e2, e3, e4, e5, ⟨rfl, rfl⟩, fun d K => ?_, fun d K => ?_⟩
      · rw [cl1]
        have cs' : ∀ d K, EvM (d + 21) 36 [.ref 13] (cH (zC (bC c) (hN c.1) (upf (upf (fun _ => 0) 1 v1) 2 v2) a0 (hN c.1 + 9)) (rd (c.2.2.2.2.1 141) n (skT (c.2.2.2.2.1 141) n x') v2 (c.2.2.2.1 13 7) 0 sc) (c.2.2.2.2.1 15)) K = K (.inl (some (.int 1))) (cH (zC c' (hN c.1) q' a' t') (rd (c.2.2.2.2.1 141) n n nu' (c.2.2.2.1 13 7) hs' sc') st') := fun d K => by
          rw [← cs d K, nI_0]
          simp only [i36_0, i36_1, in36, nl_i, nl_r, nl_0, nl_j, nb0, nb1, nbI, orv_s, konN_v, konN_n, konN_e, true_and, and_true, and_self, if_true, if_false, ite_true, ite_false, isR_ref, true_or, or_true, bI_T, bI_F, bI_Fb, i1z, Bool.false_eq_true]
        simp only [i53_20, i53_21, i53_24, i53_27, i53_30, i53_31, i53_34, i53_37, nl_i, nl_r, nl_0, nl_j, nb0, nb1, nbI, orv_s, konN_v, konN_n, konN_e, true_and, and_true, and_self, if_true, if_false, ite_true, ite_false, isR_ref, true_or, or_true, bI_T, bI_F, bI_Fb, i1z, Bool.false_eq_true, k0, f00, k13, cr, cs', i1n0]
      · have a := rr (d + 20) K
        have b := rs (d + 4) K
        exact a.trans b
    · refine Or.inr ⟨c', q', a', t', r', st', m', D', e1, e2, fun d K => ?_, fun d K => ?_⟩
      · rw [cl1]
        have cs' : ∀ d K, EvM (d + 21) 36 [.ref 13] (cH (zC (bC c) (hN c.1) (upf (upf (fun _ => 0) 1 v1) 2 v2) a0 (hN c.1 + 9)) (rd (c.2.2.2.2.1 141) n (skT (c.2.2.2.2.1 141) n x') v2 (c.2.2.2.1 13 7) 0 sc) (c.2.2.2.2.1 15)) K = K (.inl (some (.int 0))) (cH (zC c' (hN c.1) q' a' t') r' st') := fun d K => by
          rw [← cs d K, nI_0]
          simp only [i36_0, i36_1, in36, nl_i, nl_r, nl_0, nl_j, nb0, nb1, nbI, orv_s, konN_v, konN_n, konN_e, true_and, and_true, and_self, if_true, if_false, ite_true, ite_false, isR_ref, true_or, or_true, bI_T, bI_F, bI_Fb, i1z, Bool.false_eq_true]
        simp only [i53_20, i53_21, i53_24, i53_27, i53_30, i53_31, i53_34, i53_37, i53_40, i53_41, i53_44, i53_47, nl_i, nl_r, nl_0, nl_j, nb0, nb1, nbI, orv_s, konN_v, konN_n, konN_e, true_and, and_true, and_self, if_true, if_false, ite_true, ite_false, isR_ref, true_or, or_true, bI_T, bI_F, bI_Fb, i1z, Bool.false_eq_true, k0, f00, k13, cr, cs', i1n0, f137]
      · have a := rr (d + 20) K
        have b := rs (d + 4) K
        exact a.trans b
  · refine Or.inr ⟨bC c, q', a0, hN c.1 + 9, r', c.2.2.2.2.1 15, m', D', cE_id hcG.2.2.2.2.2.2, he, fun d K => ?_, fun d K => ?_⟩
    · rw [cl1]
      simp only [i53_20, i53_21, i53_24, i53_27, i53_30, i53_31, i53_34, i53_37, i53_40, i53_41, i53_44, i53_47, nl_i, nl_r, nl_0, nl_j, nb0, nb1, nbI, orv_s, konN_v, konN_n, konN_e, true_and, and_true, and_self, if_true, if_false, ite_true, ite_false, isR_ref, true_or, or_true, bI_T, bI_F, bI_Fb, i1z, Bool.false_eq_true, k0, f00, k13, cr, f137]
    · have a := rr (d + 20) K
      exact a.trans (badTo181 (d := d + 4) he.1)
end LD
