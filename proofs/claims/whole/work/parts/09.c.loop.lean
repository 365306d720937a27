/-! READING: all statements, the header -/
theorem kdT_ne {g : Nat → Int32} {n p : Nat} (h : p < n) : ¬ kdT g n p = 0 := by
  by_cases hd : isDg (g p) = true
  · rw [(kdT_dg (n := n) (by omega) hd).1]; decide
  · by_cases hl : isLt (g p) = true
    · rw [(kdT_lt (n := n) (by omega) hd hl).1]; decide
    · rw [(kdT_ot (n := n) (by omega) hd hl).1]; decide
theorem cE_B {c c' : HP} {k l : Nat} (h : cE c c' k l) : cB c' = cB c := congrFun (congrArg (fun z => z.2.1) h.2.2.2.2.2.2.2) 14
/-- what the reading of all statements comes to -/
def jL (c c2 : HP) (g : Nat → Int32) (n : Nat) (ec ob ud : Int32) (s t : Nat) (q st D : Nat → Int32) (a : Nat → Nat → Int32) (hs sn nu : Int32) (sc x i : Nat) (l2 m1 m2 : Option Value) (ln : Int32) : Prop :=
  (∃ c' t' q' a' nn' pg' D' hs' sn' nz' nu' sc' st' m', cE c c' (kq hs) (kS hs) ∧ cG c' s t' nn' pg' ∧ DJ q' a' nn' pg' D' hs' sn' nz' ∧ 0 < nz' ∧ (m' 5 = 0 ∧ m' 6 = -1 ∧ m' 0 = 0 ∧ m' 2 = 0 ∧ m' 7 = ob ∧ m' 12 = ud) ∧
      (∀ d K, Ev (d + 21) 36 2 [some (.ref 13), some (.int (nI i)), l2] [] (cH (zC c s q a t) (rd g n (skT g n x) nu ec hs sc) st) K = K (.inl (some (.int 1))) (cH (zC c' s q' a' t') (rd g n n nu' ec hs' sc') st')) ∧
      (∀ d K, Ev (d + 21) 114 140 [m1, m2, some (.int ln)] [] (rH c2 (rm n x 0 ob ud sn) D) K = Ev (d + 21) 114 181 [m1, m2, some (.int ln)] [] (rH c2 m' D') K)) ∨
  (∃ c' q' a' t' r' st' m' D', cE c c' (kq hs) (kS hs) ∧ eEq r' m' ob ud ∧
      (∀ d K, Ev (d + 21) 36 2 [some (.ref 13), some (.int (nI i)), l2] [] (cH (zC c s q a t) (rd g n (skT g n x) nu ec hs sc) st) K = K (.inl (some (.int 0))) (cH (zC c' s q' a' t') r' st')) ∧
      (∀ d K, Ev (d + 21) 114 140 [m1, m2, some (.int ln)] [] (rH c2 (rm n x 0 ob ud sn) D) K = Ev (d + 21) 114 181 [m1, m2, some (.int ln)] [] (rH c2 m' D') K))
section LP
variable {c2 : HP} {g : Nat → Int32} {n : Nat} {ec ob ud : Int32}
theorem badTo181 {d : Nat} {m D : Nat → Int32} {K : AO → AH → Prop} {m2 : Option Value} {ln : Int32} (h5 : ¬ m 5 = 0) : Ev (d + 21) 114 140 [some (.ref 140), m2, some (.int ln)] [] (rH c2 m D) K = Ev (d + 21) 114 181 [some (.ref 140), m2, some (.int ln)] [] (rH c2 m D) K := by
  have f3 : hF (rH c2 m D) 140 3 = .int (m 3) := f_140_3.trans (by rw [pS_b])
  rw [i114_140]
  simp only [i114_141, i114_144, i114_162, i114_163, i114_166, i114_167, i114_168, i114_171, i114_172, i114_174, i114_175, i114_178, nl_i, nl_r, nl_0, nl_j, nb0, nb1, nbI, orv_s, konN_v, konN_n, konN_e, true_and, and_true, and_self, if_true, if_false, ite_true, ite_false, isR_ref, true_or, or_true, bI_T, bI_F, bI_Fb, i1z, Bool.false_eq_true, r_k, r_isGood, h5, r_f9, r_k3, r_l3, r_a3, inb0 (show 0 < 1451 by omega), zn_0, f3, r_reportB h5]
  split <;> rfl
theorem j_stmts_end (hg : rB c2 = g) (hn : n ≤ 700) {c : HP} {s t nn x nz i sc : Nat} {q pg st D : Nat → Int32} {a : Nat → Nat → Int32} {hs sn nu : Int32} {l2 m2 : Option Value} {ln : Int32} (hc : cG c s t nn pg) (hD : DJ q a nn pg D hs sn nz) (hx : x ≤ n) (hi : i ≤ x) (hp : ¬ skT g n x < n) : jL c c2 g n ec ob ud s t q st D a hs sn nu sc x i l2 (some (.ref 140)) m2 ln := by
  have hD0 := hD
  obtain ⟨⟨d1, d2, d3⟩, -, -, -, -, -, -, -⟩ := hD0
  have hc0 := hc
  obtain ⟨g1, g2, g3, g4, g5, g6, g7⟩ := hc0
  have hsk := skT_le (g := g) hx
  have hid := skT_id (g := g) hx
  have hpn : skT g n x = n := by omega
  have bm : bA g n (skT g n x) = -1 := bA_ge hp
  have kd := kdT_end (g := g) (n := n) (p := skT g n x) (by omega)
  have hi2 : i < 2 ^ 31 := by omega
  have hn2 : n < 2 ^ 31 := by omega
  have f3 : ∀ {m}, hF (rH c2 m D) 140 3 = .int (m 3) := fun {m} => f_140_3.trans (by rw [pS_b])
  have toEnd : ∀ d K, Ev (d + 21) 36 2 [some (.ref 13), some (.int (nI i)), l2] [] (cH (zC c s q a t) (rd g n (skT g n x) nu ec hs sc) st) K = Ev (d + 21) 36 100 [some (.ref 13), some (.int (nI i)), l2] [] (cH (zC c s q a t) (rd g n (skT g n x) nu ec hs sc) st) K := fun d K => by
    rw [i36_2]
    by_cases hin : i < n
    · simp only [i36_3, i36_4, i36_7, i36_10, i36_11, i36_14, nl_i, nl_r, nl_0, nl_j, nb0, nb1, nbI, orv_s, konN_v, konN_n, konN_e, true_and, and_true, and_self, if_true, if_false, ite_true, ite_false, isR_ref, true_or, or_true, bI_T, bI_F, bI_Fb, i1z, Bool.false_eq_true, c_k, c_f2, rd_2, c_f3, rd_3, kd.1, nI_le_zn hi2, zn_nI hn2, hin, not_true]
    · simp only [i36_3, i36_4, i36_7, i36_10, i36_11, i36_14, nl_i, nl_r, nl_0, nl_j, nb0, nb1, nbI, orv_s, konN_v, konN_n, konN_e, true_and, and_true, and_self, if_true, if_false, ite_true, ite_false, isR_ref, true_or, or_true, bI_T, bI_F, bI_Fb, i1z, Bool.false_eq_true, c_k, c_f2, rd_2, c_f3, rd_3, kd.1, nI_le_zn hi2, zn_nI hn2, hin, not_false_eq_true]
  by_cases hz : nz = 0
  · subst hz
    have q0 : (0 < q 0) = False := eq_false (by rw [d1]; decide)
    refine Or.inr ⟨c, q, a, t, upf (upf (rd g n (skT g n x) nu ec hs sc) 7 (-2)) 8 (nI (skT g n x)), st, upf (upf (rm n (skT g n x) 0 ob ud sn) 5 (-2)) 6 (nI n), D, cE_id g7, by rw [hpn]; exact eE1 (by decide), fun d K => ?_, fun d K => ?_⟩
    · rw [toEnd]
      simp only [i36_100, i36_101, i36_104, i36_107, i36_110, i36_111, i36_113, i36_116, i36_119, i36_120, i36_123, i36_124, nl_i, nl_r, nl_0, nl_j, nb0, nb1, nbI, orv_s, konN_v, konN_n, konN_e, true_and, and_true, and_self, if_true, if_false, ite_true, ite_false, isR_ref, true_or, or_true, bI_T, bI_F, bI_Fb, i1z, Bool.false_eq_true, c_k, z_g g6, z_k g1, z_0 g1, q0, c_fail, rd_4]
    · rw [i114_140]
      simp only [i114_141, i114_144, i114_147, i114_148, i114_151, i114_152, i114_155, i114_156, i114_159, i114_162, i114_163, i114_166, i114_167, i114_168, i114_171, i114_172, i114_174, i114_175, i114_178, nl_i, nl_r, nl_0, nl_j, nb0, nb1, nbI, orv_s, konN_v, konN_n, konN_e, true_and, and_true, and_self, if_true, if_false, ite_true, ite_false, isR_ref, true_or, or_true, bI_T, bI_F, bI_Fb, i1z, Bool.false_eq_true, r_k, r_isGood, rm_5, r_next hg hn hx, bm, r_f9, r_k3, r_l3, r_a3, inb0 (show 0 < 1451 by omega), zn_0, d3, nI_0, f3, rm_3, r_report rm_5]
  · have q0 : (0 < q 0) = True := eq_true (by
      rw [d1, i32_lt, nI_toInt (by omega)]
      show (0 : Int) < _
      omega)
    have dn0 : (D 0 = 0) = False := eq_false (by rw [d3]; exact nI_ne0 (by omega) (by omega))
    refine Or.inl ⟨c, t, q, a, nn, pg, D, hs, sn, nz, nu, sc, st, rm n (skT g n x) 0 ob ud sn, cE_id g7, hc, hD, by omega, ⟨rfl, rfl, rfl, rfl, rfl, rfl⟩, fun d K => ?_, fun d K => ?_⟩
    · rw [toEnd, hpn]
      simp only [i36_100, i36_101, i36_104, i36_107, i36_110, i36_111, i36_113, i36_116, i36_119, i36_120, i36_123, i36_124, nl_i, nl_r, nl_0, nl_j, nb0, nb1, nbI, orv_s, konN_v, konN_n, konN_e, true_and, and_true, and_self, if_true, if_false, ite_true, ite_false, isR_ref, true_or, or_true, bI_T, bI_F, bI_Fb, i1z, Bool.false_eq_true, c_k, z_g g6, z_k g1, z_0 g1, q0]
    · rw [i114_140]
      simp only [i114_141, i114_144, i114_147, i114_148, i114_151, i114_152, i114_155, i114_156, i114_159, i114_162, i114_163, i114_166, i114_167, i114_168, i114_171, i114_172, i114_174, i114_175, i114_178, nl_i, nl_r, nl_0, nl_j, nb0, nb1, nbI, orv_s, konN_v, konN_n, konN_e, true_and, and_true, and_self, if_true, if_false, ite_true, ite_false, isR_ref, true_or, or_true, bI_T, bI_F, bI_Fb, i1z, Bool.false_eq_true, r_k, r_isGood, rm_5, r_next hg hn hx, bm, r_f9, r_k3, r_l3, r_a3, inb0 (show 0 < 1451 by omega), zn_0, dn0]
theorem j_stmts (hg : rB c2 = g) (hn : n ≤ 700) {ln : Int32} {m2 : Option Value} : ∀ Z (c : HP) (s t nn x nz i sc : Nat) (q pg st D : Nat → Int32) (a : Nat → Nat → Int32) (hs sn nu : Int32) (l2 : Option Value), bV (cB c) g n → n - x < Z → cG c s t nn pg → DJ q a nn pg D hs sn nz → x ≤ n → i ≤ x → jL c c2 g n ec ob ud s t q st D a hs sn nu sc x i l2 (some (.ref 140)) m2 ln
  | 0, c, s, t, nn, x, nz, i, sc, q, pg, st, D, a, hs, sn, nu, l2, hv, hz, _, _, _, _ => absurd hz (Nat.not_lt_zero _)
  | Z + 1, c, s, t, nn, x, nz, i, sc, q, pg, st, D, a, hs, sn, nu, l2, hv, hz, hc, hD, hx, hi => by
    have hsk := skT_le (g := g) hx
    have hid := skT_id (g := g) hx
    by_cases hp : skT g n x < n
    · have bm : ¬ bA g n (skT g n x) = -1 := by
        rw [bA_lt hp]
        intro z
        have := (hv _ hp).2.1
        rw [z] at this
        exact absurd this (by decide)
      have kd := kdT_ne (g := g) hp
      have hi2 : i < 2 ^ 31 := by omega
      have hn2 : n < 2 ^ 31 := by omega
      have hin : i < n := by omega
      have goC : ∀ d K, Ev (d + 21) 36 2 [some (.ref 13), some (.int (nI i)), l2] [] (cH (zC c s q a t) (rd g n (skT g n x) nu ec hs sc) st) K = Ev (d + 21) 36 17 [some (.ref 13), some (.int (nI i)), l2] [] (cH (zC c s q a t) (rd g n (skT g n x) nu ec hs sc) st) K := fun d K => by
        rw [i36_2]
        simp only [i36_3, i36_4, i36_7, i36_10, i36_11, i36_14, nl_i, nl_r, nl_0, nl_j, nb0, nb1, nbI, orv_s, konN_v, konN_n, konN_e, true_and, and_true, and_self, if_true, if_false, ite_true, ite_false, isR_ref, true_or, or_true, bI_T, bI_F, bI_Fb, i1z, Bool.false_eq_true, c_k, c_f2, rd_2, c_f3, rd_3, kd, nI_le_zn hi2, zn_nI hn2, hin, not_true]
      have goR : ∀ d K D, Ev (d + 21) 114 140 [some (.ref 140), m2, some (.int ln)] [] (rH c2 (rm n x 0 ob ud sn) D) K = EvM (d + 20) 113 [.ref 140] (rH c2 (rm n (skT g n x) 0 ob ud sn) D) (konN (d + 21) 114 159 [some (.ref 140), m2, some (.int ln)] [] K) := fun d K D => by
        rw [i114_140]
        simp only [i114_141, i114_144, i114_147, i114_148, i114_151, i114_152, i114_155, i114_156, nl_i, nl_r, nl_0, nl_j, nb0, nb1, nbI, orv_s, konN_v, konN_n, konN_e, true_and, and_true, and_self, if_true, if_false, ite_true, ite_false, isR_ref, true_or, or_true, bI_T, bI_F, bI_Fb, i1z, Bool.false_eq_true, r_k, r_isGood, rm_5, r_next hg hn hx, bm]
      have js := j_stmt (c := c) (c2 := c2) (ec := ec) (ob := ob) (ud := ud) (x := skT g n x) (i := i) (sc := sc) (st := st) (nu := nu) (l2 := l2) hv hg hn hc hD hsk.2 (by rw [hid]; exact hp)
      rw [hid] at js
      rcases js with ⟨c', t', q', a', nn', pg', D', hs', sn', nz', nu', sc', st', x', e1, e2, e3, e4, e5, e6, kC, w, kR⟩ | ⟨c', q', a', t', r', st', m', D', e1, e2, kC, kR⟩
      · have hv' : bV (cB c') g n := by rw [cE_B e1]; exact hv
        have hvz : bV (cB (zC c' s q' a' t')) g n := hv'
        have hb59 : ∀ u : Int32, True := fun _ => trivial
        rcases j_semi (g := g) hn e6 with ⟨x2, f1, f2, sC, sR⟩ | ⟨u, o, x2, hu, sC, sR⟩
        · have hxx := (skT_le (g := g) e6).1
          have goC2 : ∀ d K, Ev (d + 21) 36 2 [some (.ref 13), some (.int (nI i)), l2] [] (cH (zC c s q a t) (rd g n (skT g n x) nu ec hs sc) st) K = Ev (d + 21) 36 2 [some (.ref 13), some (.int (nI (i + 1))), some (.int 1)] [] (cH (zC c' s q' a' t') (rd g n (skT g n x2) nu' ec hs' sc') st') K := fun d K => by
            rw [goC, kC]
            simp only [i36_78, i36_79, i36_80, i36_83, i36_84, i36_86, i36_89, i36_92, i36_93, i36_94, i36_97, nl_i, nl_r, nl_0, nl_j, nb0, nb1, nbI, orv_s, konN_v, konN_n, konN_e, true_and, and_true, and_self, if_true, if_false, ite_true, ite_false, isR_ref, true_or, or_true, bI_T, bI_F, bI_Fb, i1z, Bool.false_eq_true, c_k, sC (zC c' s q' a' t') _ _ _ _ _ _ _ hvz, nI_1]
          have goR2 : ∀ d K, Ev (d + 21) 114 140 [some (.ref 140), m2, some (.int ln)] [] (rH c2 (rm n x 0 ob ud sn) D) K = Ev (d + 21) 114 140 [some (.ref 140), m2, some (.int ln)] [] (rH c2 (rm n x2 0 ob ud sn') D') K := fun d K => by
            rw [goR, kR]
            simp only [i113_80, i113_81, i113_83, i113_86, i114_159, nl_i, nl_r, nl_0, nl_j, nb0, nb1, nbI, orv_s, konN_v, konN_n, konN_e, true_and, and_true, and_self, if_true, if_false, ite_true, ite_false, isR_ref, true_or, or_true, bI_T, bI_F, bI_Fb, i1z, Bool.false_eq_true, r_k, sR c2 _ _ _ _ _ _ _ hg]
          have y1 : n - x2 < Z ∧ i + 1 ≤ x2 := by clear e2 goC goR goC2 goR2; omega
          rcases j_stmts hg hn Z c' s t' nn' x2 nz' (i + 1) sc' q' pg' st' D' a' hs' sn' nu' (some (.int 1)) hv' y1.1 e3 e4 f2 y1.2 with ⟨c3, t3, q3, a3, nn3, pg3, D3, hs3, sn3, nz3, nu3, sc3, st3, m3, i1, i2, i3, i4, i5, i6, i7⟩ | ⟨c3, q3, a3, t3, r3, st3, m3, D3, i1, i2, i3, i4⟩
          · refine Or.inl ⟨c3, t3, q3, a3, nn3, pg3, D3, hs3, sn3, nz3, nu3, sc3, st3, m3, ?_, i2, i3, i4, i5, fun d K => (goC2 d K).trans (i6 d K), fun d K => (goR2 d K).trans (i7 d K)⟩
            rcases e2 with ⟨z1, z2⟩ | z
            · have := cE_tr z1 i1
              rw [z2] at this
              exact cE_le this (by omega) (by omega)
            · have := cE_tr e1 i1
              rw [z] at this
              exact this
          · refine Or.inr ⟨c3, q3, a3, t3, r3, st3, m3, D3, ?_, i2, fun d K => (goC2 d K).trans (i3 d K), fun d K => (goR2 d K).trans (i4 d K)⟩
            rcases e2 with ⟨z1, z2⟩ | z
            · have := cE_tr z1 i1
              rw [z2] at this
              exact cE_le this (by omega) (by omega)
            · have := cE_tr e1 i1
              rw [z] at this
              exact this
        · refine Or.inr ⟨c', q', a', t', upf (upf (rd g n (skT g n x') nu' ec hs' sc') 7 u) 8 o, st', upf (upf (rm n x2 0 ob ud sn') 5 u) 6 o, D', e1, eE1 hu, fun d K => ?_, fun d K => ?_⟩
          · rw [goC, kC]
            simp only [i36_78, i36_79, i36_80, i36_83, i36_84, i36_86, i36_89, i36_92, i36_93, nl_i, nl_r, nl_0, nl_j, nb0, nb1, nbI, orv_s, konN_v, konN_n, konN_e, true_and, and_true, and_self, if_true, if_false, ite_true, ite_false, isR_ref, true_or, or_true, bI_T, bI_F, bI_Fb, i1z, Bool.false_eq_true, c_k, sC (zC c' s q' a' t') _ _ _ _ _ _ _ hvz]
          · have h5 : ¬ (upf (upf (rm n x2 0 ob ud sn') 5 u) 6 o) 5 = 0 := hu
            rw [goR, kR]
            simp only [i113_80, i113_81, i113_83, i113_86, i114_159, nl_i, nl_r, nl_0, nl_j, nb0, nb1, nbI, orv_s, konN_v, konN_n, konN_e, true_and, and_true, and_self, if_true, if_false, ite_true, ite_false, isR_ref, true_or, or_true, bI_T, bI_F, bI_Fb, i1z, Bool.false_eq_true, r_k, sR c2 _ _ _ _ _ _ _ hg]
            exact badTo181 h5
      · refine Or.inr ⟨c', q', a', t', r', st', m', D', e1, e2, fun d K => ?_, fun d K => ?_⟩
        · rw [goC, kC]
          simp only [i36_78, i36_79, i36_80, i36_83, i36_84, i36_86, i36_89, i36_92, i36_93, nl_i, nl_r, nl_0, nl_j, nb0, nb1, nbI, orv_s, konN_v, konN_n, konN_e, true_and, and_true, and_self, if_true, if_false, ite_true, ite_false, isR_ref, true_or, or_true, bI_T, bI_F, bI_Fb, i1z, Bool.false_eq_true, c_k]
        · rw [goR, kR]
          simp only [i114_159, nl_i, nl_r, nl_0, nl_j, nb0, nb1, nbI, orv_s, konN_v, konN_n, konN_e, true_and, and_true, and_self, if_true, if_false, ite_true, ite_false, isR_ref, true_or, or_true, bI_T, bI_F, bI_Fb, i1z, Bool.false_eq_true]
          exact badTo181 e2.1
    · exact j_stmts_end hg hn hc hD hx hi hp
theorem j_head {c : HP} (hv : bV (cB c) g n) (hg : rB c2 = g) (hn : n ≤ 700) {s t sc : Nat} {q st D : Nat → Int32} {a : Nat → Nat → Int32} {nu ln : Int32} {m2 : Option Value} (hs : SBc c.1 c.2.1 s) (hG : c.2.2.2.2.2.2 13 = s) :
    (∃ v1 v2 x', 0 < x' ∧ x' ≤ n ∧ (1 ≤ v1 ∧ v1 ≤ 9) ∧ (0 ≤ v2 ∧ v2 ≤ 20) ∧
      (∀ d K, EvM (d + 5) 35 [.ref 13] (cH (zC c s q a t) (rd g n (skT g n 0) nu ec 0 sc) st) K = K (.inl (some (.int 1))) (cH (zC c s (upf (upf q 1 v1) 2 v2) a t) (rd g n (skT g n x') v2 ec 0 sc) st)) ∧
      (∀ d K, Ev (d + 5) 114 89 [some (.ref 140), m2, some (.int ln)] [] (rH c2 (rm n 0 0 ob ud 0) D) K = Ev (d + 5) 114 140 [some (.ref 140), m2, some (.int ln)] [] (rH c2 (rm n x' 0 ob ud 0) (upd (upd D 3 v1) 4 v2)) K)) ∨
    (∃ q' r' m' D', eEq r' m' ob ud ∧
      (∀ d K, EvM (d + 5) 35 [.ref 13] (cH (zC c s q a t) (rd g n (skT g n 0) nu ec 0 sc) st) K = K (.inl (some (.int 0))) (cH (zC c s q' a t) r' st)) ∧
      (∀ d K, Ev (d + 5) 114 89 [some (.ref 140), m2, some (.int ln)] [] (rH c2 (rm n 0 0 ob ud 0) D) K = Ev (d + 5) 114 140 [some (.ref 140), m2, some (.int ln)] [] (rH c2 m' D') K)) := by
  have hx0 : 0 ≤ n := Nat.zero_le n
  have hsk := skT_le (g := g) hx0
  have hvz : ∀ q a t, bV (cB (zC c s q a t)) g n := fun _ _ _ => hv
  have h06 : (0 : Nat) < 6 := by omega
  have b3 : inb 3 1451 = True := eq_true (by decide)
  have b4 : inb 4 1451 = True := eq_true (by decide)
  have zn3 : Int32.toNatClampNeg 3 = 3 := by decide
  have zn4 : Int32.toNatClampNeg 4 = 4 := by decide
  have cw := fun {d K nu hs sc st} => c_wordIs (c := zC c s q a t) (d := d) (K := K) (nu := nu) (ec := ec) (hs := hs) (sc := sc) (st := st) h06 (hvz q a t) hn hsk.2
  have ct := fun {d K nu hs sc st} => c_tok (c := zC c s q a t) (d := d) (K := K) (nu := nu) (ec := ec) (hs := hs) (sc := sc) (st := st) (hvz q a t) hn hsk.2
  by_cases w : wdB g n (skT g n 0) 0 = true
  · have h1 := (wdB_lt w).2
    have h2 := teT_le (g := g) hsk.2
    have h3 := lenJ_le 0 h06
    have y1 : skT g n 0 + lenJ.getD 0 0 ≤ n := by omega
    have hnx : nxT g n (skT g n 0) = skT g n (skT g n 0 + lenJ.getD 0 0) := by
      unfold nxT
      rw [h1]
    rcases j_num (g := g) (lo := 1) (hi := 9) hn y1 (by decide) with ⟨v1, x1, a1, b1, w1, kc1, kr1⟩ | ⟨u, o, w', x', hu, kc1, kr1⟩
    · rcases j_num (g := g) (lo := 0) (hi := 20) hn b1 (by decide) with ⟨v2, x2, a2, b2, w2, kc2, kr2⟩ | ⟨u, o, w', x', hu, kc2, kr2⟩
      · rcases j_semi (g := g) hn b2 with ⟨x3, a3, b3', sC, sR⟩ | ⟨u, o, x', hu, sC, sR⟩
        · refine Or.inl ⟨v1, v2, x3, by omega, b3', w1, w2, fun d K => ?_, fun d K => ?_⟩
          · simp only [in35, i35_0, i35_1, i35_3, i35_6, i35_9, i35_10, i35_12, i35_15, i35_16, i35_17, i35_20, i35_21, i35_22, i35_24, i35_27, i35_30, i35_31, i35_32, i35_33, i35_36, i35_37, i35_40, i35_43, i35_44, i35_45, i35_47, i35_50, i35_53, i35_54, i35_55, i35_56, i35_59, i35_60, i35_63, i35_66, i35_67, i35_69, i35_72, nl_i, nl_r, nl_0, nl_j, nb0, nb1, nbI, orv_s, konN_v, konN_n, konN_e, true_and, and_true, and_self, if_true, if_false, ite_true, ite_false, isR_ref, true_or, or_true, bI_T, bI_F, bI_Fb, i1z, Bool.false_eq_true, c_k, cw, w, ct, hnx, kc1 (zC c s _ _ _) _ _ _ _ _ _ _ (hvz _ _ _), kc2 (zC c s _ _ _) _ _ _ _ _ _ _ (hvz _ _ _), z_g hG, z_k hs, z_w1 hs, z_w2 hs, c_f6, rd_6, sC (zC c s _ _ _) _ _ _ _ _ _ _ (hvz _ _ _)]
          · simp only [i114_89, i114_90, i114_92, i114_95, i114_98, i114_99, i114_101, i114_102, i114_105, i114_108, i114_109, i114_112, i114_113, i114_114, i114_115, i114_117, i114_120, i114_121, i114_122, i114_125, i114_126, i114_127, i114_128, i114_130, i114_133, i114_134, i114_135, i114_137, nl_i, nl_r, nl_0, nl_j, nb0, nb1, nbI, orv_s, konN_v, konN_n, konN_e, true_and, and_true, and_self, if_true, if_false, ite_true, ite_false, isR_ref, true_or, or_true, bI_T, bI_F, bI_Fb, i1z, Bool.false_eq_true, r_k, r_takeWord h06 hg hn hx0, w, r_f9, r_k3, r_l3, r_a3, r_wa3, b3, b4, zn3, zn4, kr1 c2 _ _ _ _ _ _ _ hg, kr2 c2 _ _ _ _ _ _ _ hg, sR c2 _ _ _ _ _ _ _ hg]
        · refine Or.inr ⟨upf (upf q 1 v1) 2 v2, upf (upf (rd g n (skT g n x2) v2 ec 0 sc) 7 u) 8 o, upf (upf (rm n x' 0 ob ud 0) 5 u) 6 o, upd (upd D 3 v1) 4 v2, eE1 hu, fun d K => ?_, fun d K => ?_⟩
          · simp only [in35, i35_0, i35_1, i35_3, i35_6, i35_9, i35_10, i35_12, i35_15, i35_16, i35_17, i35_20, i35_21, i35_22, i35_24, i35_27, i35_30, i35_31, i35_32, i35_33, i35_36, i35_37, i35_40, i35_43, i35_44, i35_45, i35_47, i35_50, i35_53, i35_54, i35_55, i35_56, i35_59, i35_60, i35_63, i35_66, i35_67, i35_69, i35_72, nl_i, nl_r, nl_0, nl_j, nb0, nb1, nbI, orv_s, konN_v, konN_n, konN_e, true_and, and_true, and_self, if_true, if_false, ite_true, ite_false, isR_ref, true_or, or_true, bI_T, bI_F, bI_Fb, i1z, Bool.false_eq_true, c_k, cw, w, ct, hnx, kc1 (zC c s _ _ _) _ _ _ _ _ _ _ (hvz _ _ _), kc2 (zC c s _ _ _) _ _ _ _ _ _ _ (hvz _ _ _), z_g hG, z_k hs, z_w1 hs, z_w2 hs, c_f6, rd_6, sC (zC c s _ _ _) _ _ _ _ _ _ _ (hvz _ _ _)]
          · simp only [i114_89, i114_90, i114_92, i114_95, i114_98, i114_99, i114_101, i114_102, i114_105, i114_108, i114_109, i114_112, i114_113, i114_114, i114_115, i114_117, i114_120, i114_121, i114_122, i114_125, i114_126, i114_127, i114_128, i114_130, i114_133, i114_134, i114_135, i114_137, nl_i, nl_r, nl_0, nl_j, nb0, nb1, nbI, orv_s, konN_v, konN_n, konN_e, true_and, and_true, and_self, if_true, if_false, ite_true, ite_false, isR_ref, true_or, or_true, bI_T, bI_F, bI_Fb, i1z, Bool.false_eq_true, r_k, r_takeWord h06 hg hn hx0, w, r_f9, r_k3, r_l3, r_a3, r_wa3, b3, b4, zn3, zn4, kr1 c2 _ _ _ _ _ _ _ hg, kr2 c2 _ _ _ _ _ _ _ hg, sR c2 _ _ _ _ _ _ _ hg]
      · have h5 : ¬ (upf (upf (rm n x' 0 ob ud 0) 5 u) 6 o) 5 = 0 := hu
        refine Or.inr ⟨upf q 1 v1, upf (upf (rd g n (skT g n x1) v1 ec 0 sc) 7 u) 8 o, upf (upf (rm n x' 0 ob ud 0) 5 u) 6 o, upd (upd D 3 v1) 4 w', eE1 hu, fun d K => ?_, fun d K => ?_⟩
        · simp only [in35, i35_0, i35_1, i35_3, i35_6, i35_9, i35_10, i35_12, i35_15, i35_16, i35_17, i35_20, i35_21, i35_22, i35_24, i35_27, i35_30, i35_31, i35_32, i35_33, i35_36, i35_37, i35_40, i35_43, i35_44, i35_45, i35_47, i35_50, i35_53, i35_54, i35_55, i35_56, i35_59, i35_60, i35_63, i35_66, i35_67, i35_69, i35_72, nl_i, nl_r, nl_0, nl_j, nb0, nb1, nbI, orv_s, konN_v, konN_n, konN_e, true_and, and_true, and_self, if_true, if_false, ite_true, ite_false, isR_ref, true_or, or_true, bI_T, bI_F, bI_Fb, i1z, Bool.false_eq_true, c_k, cw, w, ct, hnx, kc1 (zC c s _ _ _) _ _ _ _ _ _ _ (hvz _ _ _), kc2 (zC c s _ _ _) _ _ _ _ _ _ _ (hvz _ _ _), z_g hG, z_k hs, z_w1 hs, z_w2 hs, c_f6, rd_6]
        · simp only [i114_89, i114_90, i114_92, i114_95, i114_98, i114_99, i114_101, i114_102, i114_105, i114_108, i114_109, i114_112, i114_113, i114_114, i114_115, i114_117, i114_120, i114_121, i114_122, i114_125, i114_126, i114_127, i114_128, i114_130, i114_133, i114_134, i114_135, i114_137, nl_i, nl_r, nl_0, nl_j, nb0, nb1, nbI, orv_s, konN_v, konN_n, konN_e, true_and, and_true, and_self, if_true, if_false, ite_true, ite_false, isR_ref, true_or, or_true, bI_T, bI_F, bI_Fb, i1z, Bool.false_eq_true, r_k, r_takeWord h06 hg hn hx0, w, r_f9, r_k3, r_l3, r_a3, r_wa3, b3, b4, zn3, zn4, kr1 c2 _ _ _ _ _ _ _ hg, kr2 c2 _ _ _ _ _ _ _ hg, r_expectB h5]
    · have h5 : ¬ (upf (upf (rm n x' 0 ob ud 0) 5 u) 6 o) 5 = 0 := hu
      refine Or.inr ⟨q, upf (upf (rd g n (skT g n (skT g n 0 + lenJ.getD 0 0)) nu ec 0 sc) 7 u) 8 o, upf (upf (rm n x' 0 ob ud 0) 5 u) 6 o, upd (upd D 3 w') 4 0, eE1 hu, fun d K => ?_, fun d K => ?_⟩
      · simp only [in35, i35_0, i35_1, i35_3, i35_6, i35_9, i35_10, i35_12, i35_15, i35_16, i35_17, i35_20, i35_21, i35_22, i35_24, i35_27, i35_30, i35_31, i35_32, i35_33, i35_36, i35_37, i35_40, i35_43, i35_44, i35_45, i35_47, i35_50, i35_53, i35_54, i35_55, i35_56, i35_59, i35_60, i35_63, i35_66, i35_67, i35_69, i35_72, nl_i, nl_r, nl_0, nl_j, nb0, nb1, nbI, orv_s, konN_v, konN_n, konN_e, true_and, and_true, and_self, if_true, if_false, ite_true, ite_false, isR_ref, true_or, or_true, bI_T, bI_F, bI_Fb, i1z, Bool.false_eq_true, c_k, cw, w, ct, hnx, kc1 (zC c s _ _ _) _ _ _ _ _ _ _ (hvz _ _ _)]
      · simp only [i114_89, i114_90, i114_92, i114_95, i114_98, i114_99, i114_101, i114_102, i114_105, i114_108, i114_109, i114_112, i114_113, i114_114, i114_115, i114_117, i114_120, i114_121, i114_122, i114_125, i114_126, i114_127, i114_128, i114_130, i114_133, i114_134, i114_135, i114_137, nl_i, nl_r, nl_0, nl_j, nb0, nb1, nbI, orv_s, konN_v, konN_n, konN_e, true_and, and_true, and_self, if_true, if_false, ite_true, ite_false, isR_ref, true_or, or_true, bI_T, bI_F, bI_Fb, i1z, Bool.false_eq_true, r_k, r_takeWord h06 hg hn hx0, w, r_f9, r_k3, r_l3, r_a3, r_wa3, b3, b4, zn3, zn4, kr1 c2 _ _ _ _ _ _ _ hg, r_numberB h5, r_expectB h5]
  · have wf : wdB g n (skT g n 0) 0 = false := Bool.eq_false_iff.mpr w
    have h5 : ¬ (upf (upf (rm n (skT g n 0) 0 ob ud 0) 5 (-2)) 6 (nI (skT g n 0))) 5 = 0 := (by decide : ¬ (-2 : Int32) = 0)
    refine Or.inr ⟨q, upf (upf (rd g n (skT g n 0) nu ec 0 sc) 7 (-2)) 8 (nI (skT g n 0)), upf (upf (rm n (skT g n 0) 0 ob ud 0) 5 (-2)) 6 (nI (skT g n 0)), upd (upd D 3 0) 4 0, eE1 (by decide), fun d K => ?_, fun d K => ?_⟩
    · simp only [in35, i35_0, i35_1, i35_3, i35_6, i35_9, i35_10, i35_12, i35_15, i35_16, i35_17, i35_20, i35_21, i35_22, i35_24, i35_27, i35_30, i35_31, i35_32, i35_33, i35_36, i35_37, i35_40, i35_43, i35_44, i35_45, i35_47, i35_50, i35_53, i35_54, i35_55, i35_56, i35_59, i35_60, i35_63, i35_66, i35_67, i35_69, i35_72, nl_i, nl_r, nl_0, nl_j, nb0, nb1, nbI, orv_s, konN_v, konN_n, konN_e, true_and, and_true, and_self, if_true, if_false, ite_true, ite_false, isR_ref, true_or, or_true, bI_T, bI_F, bI_Fb, i1z, Bool.false_eq_true, c_k, cw, wf, c_fail, rd_4]
    · simp only [i114_89, i114_90, i114_92, i114_95, i114_98, i114_99, i114_101, i114_102, i114_105, i114_108, i114_109, i114_112, i114_113, i114_114, i114_115, i114_117, i114_120, i114_121, i114_122, i114_125, i114_126, i114_127, i114_128, i114_130, i114_133, i114_134, i114_135, i114_137, nl_i, nl_r, nl_0, nl_j, nb0, nb1, nbI, orv_s, konN_v, konN_n, konN_e, true_and, and_true, and_self, if_true, if_false, ite_true, ite_false, isR_ref, true_or, or_true, bI_T, bI_F, bI_Fb, i1z, Bool.false_eq_true, r_k, r_takeWord h06 hg hn hx0, wf, r_f4, rm_4, r_report rm_5, r_f9, r_k3, r_l3, r_a3, r_wa3, b3, b4, zn3, zn4, r_numberB h5, r_expectB h5]
end LP
