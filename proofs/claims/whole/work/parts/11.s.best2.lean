/-! FACE: bestSetpoint, its candidates -/
section BS
variable {d : Nat} {h : AH} {hh : AH} {T : Nat → Bool} {U U' S A : Nat → Nat → Int32} {J J' : Nat → Nat → Int64} {G : Nat → Nat} {K : AO → AH → Prop} {c : HP} {x y p b m o dd sg k : Int32} {nz ns t n g : Nat} {q pg f D X Y stk : Nat → Int32} {a sa : Nat → Nat → Int32} {dv : Int32 → Int32}
theorem cb_step (hdv : ∀ (x : Int32), 100 ≤ x ∧ x ≤ 900 → ∀ (U : Nat → Nat → Int32) (f : Nat → Int32) (a : Nat → Nat → Int32) (g : Nat), ∃ U' f' a', ∀ d K, EvM (d + 12) 79 [.ref 0, .int x] (MH h T U (pS S 39 f) (pA A 39 a) J (upf G 39 g)) K = K (.inl (some (.int (dv x)))) (MH h T U' (pS S 39 f') (pA A 39 a') J (upf G 39 (G 28))))
    (ho : sg * dd = o) (U : Nat → Nat → Int32) (f : Nat → Int32) (a : Nat → Nat → Int32) (g : Nat) (l6 l7 : Option Value) : ∃ U' f' a' g' l6' l7', ∀ d K, Ev (d + 13) 71 61 [some (.ref 0), some (.int p), some (.int b), some (.int m), some (.int dd), some (.int sg), l6, l7] [] (MH h T U (pS S 39 f) (pA A 39 a) J (upf G 39 g)) K =
      Ev (d + 13) 71 103 [some (.ref 0), some (.int p), some (.int (bst dv p o (b, m)).1), some (.int (bst dv p o (b, m)).2), some (.int dd), some (.int sg), l6', l7'] [] (MH h T U' (pS S 39 f') (pA A 39 a') J (upf G 39 g')) K := by
  by_cases hc : 100 ≤ p + o ∧ p + o ≤ 900
  · obtain ⟨U', f', a', r⟩ := hdv (p + o) hc U f a g
    by_cases hm : m < dv (p + o)
    · have e : bst dv p o (b, m) = (p + o, dv (p + o)) := by
        unfold bst
        rw [if_pos hc]
        exact if_pos hm
      rw [e]
      have hle : (dv (p + o) ≤ m) = False := eq_false (fun z => by
        rw [i32_le] at z
        rw [i32_lt] at hm
        omega)
      refine ⟨U', f', a', G 28, some (.int (p + o)), some (.int (dv (p + o))), fun d K => ?_⟩
      simp only [i71_61, i71_62, i71_64, i71_66, i71_67, i71_68, i71_70, i71_72, i71_74, i71_77, i71_80, i71_83, i71_84, i71_86, i71_89, i71_91, i71_93, i71_94, i71_97, i71_99, i71_100, i71_102, nl_i, nl_r, nl_0, nl_j, nb0, nb1, nbI, orv_s, konN_v, konN_n, konN_e, true_and, and_true, and_self, if_true, if_false, ite_true, ite_false, isR_ref, true_or, or_true, bI_T, bI_F, bI_Fb, i1z, Bool.false_eq_true, k_0, ho, s_within, bI_t hc, i1n0, r, hle, nl_i]
    · have e : bst dv p o (b, m) = (b, m) := by
        unfold bst
        rw [if_pos hc]
        exact if_neg hm
      rw [e]
      have hle : (dv (p + o) ≤ m) = True := eq_true (by
        rw [i32_le]
        rw [i32_lt] at hm
        omega)
      refine ⟨U', f', a', G 28, some (.int (p + o)), some (.int (dv (p + o))), fun d K => ?_⟩
      simp only [i71_61, i71_62, i71_64, i71_66, i71_67, i71_68, i71_70, i71_72, i71_74, i71_77, i71_80, i71_83, i71_84, i71_86, i71_89, i71_91, i71_93, i71_94, i71_97, i71_99, i71_100, i71_102, nl_i, nl_r, nl_0, nl_j, nb0, nb1, nbI, orv_s, konN_v, konN_n, konN_e, true_and, and_true, and_self, if_true, if_false, ite_true, ite_false, isR_ref, true_or, or_true, bI_T, bI_F, bI_Fb, i1z, Bool.false_eq_true, k_0, ho, s_within, bI_t hc, i1n0, r, hle, nl_i]
  · have e : bst dv p o (b, m) = (b, m) := if_neg hc
    rw [e]
    refine ⟨U, f, a, g, some (.int (p + o)), l7, fun d K => ?_⟩
    simp only [i71_61, i71_62, i71_64, i71_66, i71_67, i71_68, i71_70, i71_72, i71_74, i71_77, i71_80, i71_83, i71_84, i71_86, i71_89, i71_91, i71_93, i71_94, i71_97, i71_99, i71_100, i71_102, nl_i, nl_r, nl_0, nl_j, nb0, nb1, nbI, orv_s, konN_v, konN_n, konN_e, true_and, and_true, and_self, if_true, if_false, ite_true, ite_false, isR_ref, true_or, or_true, bI_T, bI_F, bI_Fb, i1z, Bool.false_eq_true, k_0, ho, s_within, bI_f hc]
theorem rb_step {P : (Nat → Int32) → Prop} (hdv : ∀ (x : Int32), 100 ≤ x ∧ x ≤ 900 → ∀ (J : Nat → Nat → Int64) (X Y : Nat → Int32), P Y → ∃ J' X' Y', P Y' ∧ ∀ d K, EvM (d + 8) 154 [.ref 140, .int x] (MH h T U S (upf (upf A 144 X) 142 Y) J G) K = K (.inl (some (.int (dv x)))) (MH h T U S (upf (upf A 144 X') 142 Y') J' G))
    (hk : ¬ 8 ≤ k) (hs : (if k - k / 2 * 2 = 0 then (-1 : Int32) else 1) = sg) (ho : 10 * (k / 2) * sg = o) (J : Nat → Nat → Int64) (X Y : Nat → Int32) (hY : P Y) (l5 l6 : Option Value) : ∃ J' X' Y' l5' l6', P Y' ∧ ∀ d K, Ev (d + 9) 155 42 [some (.ref 140), some (.int p), some (.int b), some (.int m), some (.int k), l5, l6] [] (MH h T U S (upf (upf A 144 X) 142 Y) J G) K =
      Ev (d + 9) 155 42 [some (.ref 140), some (.int p), some (.int (bst dv p o (b, m)).1), some (.int (bst dv p o (b, m)).2), some (.int (k + 1)), l5', l6'] [] (MH h T U S (upf (upf A 144 X') 142 Y') J' G) K := by
  have hk : (8 ≤ k) = False := eq_false hk
  have n2 : ((2 : Int32) = 0) = False := eq_false (by decide)
  have hp : ∀ d K, Ev (d + 9) 155 42 [some (.ref 140), some (.int p), some (.int b), some (.int m), some (.int k), l5, l6] [] (MH h T U S (upf (upf A 144 X) 142 Y) J G) K = Ev (d + 9) 155 73 [some (.ref 140), some (.int p), some (.int b), some (.int m), some (.int k), some (.int (p + o)), l6] [] (MH h T U S (upf (upf A 144 X) 142 Y) J G) K := fun d K => by
    rw [i155_42]
    by_cases e : k - k / 2 * 2 = 0
    · rw [if_pos e] at hs
      rw [← hs] at ho
      simp only [i155_44, i155_46, i155_49, i155_50, i155_52, i155_54, i155_55, i155_56, i155_57, i155_59, i155_60, i155_61, i155_64, i155_65, i155_68, i155_69, i155_70, i155_71, nl_i, nl_r, nl_0, nl_j, nb0, nb1, nbI, orv_s, konN_v, konN_n, konN_e, true_and, and_true, and_self, if_true, if_false, ite_true, ite_false, isR_ref, true_or, or_true, bI_T, bI_F, bI_Fb, i1z, Bool.false_eq_true, hk, n2, not_false_eq_true, e, ho]
    · rw [if_neg e] at hs
      rw [← hs] at ho
      simp only [i155_44, i155_46, i155_49, i155_50, i155_52, i155_54, i155_55, i155_56, i155_57, i155_59, i155_60, i155_61, i155_64, i155_65, i155_68, i155_69, i155_70, i155_71, nl_i, nl_r, nl_0, nl_j, nb0, nb1, nbI, orv_s, konN_v, konN_n, konN_e, true_and, and_true, and_self, if_true, if_false, ite_true, ite_false, isR_ref, true_or, or_true, bI_T, bI_F, bI_Fb, i1z, Bool.false_eq_true, hk, n2, not_false_eq_true, e, ho]
  by_cases hc : 100 ≤ p + o ∧ p + o ≤ 900
  · obtain ⟨J', X', Y', hY', r⟩ := hdv (p + o) hc J X Y hY
    by_cases hm : m < dv (p + o)
    · have e : bst dv p o (b, m) = (p + o, dv (p + o)) := by
        unfold bst
        rw [if_pos hc]
        exact if_pos hm
      rw [e]
      refine ⟨J', X', Y', some (.int (p + o)), some (.int (dv (p + o))), hY', fun d K => ?_⟩
      rw [hp]
      simp only [i155_73, i155_75, i155_77, i155_80, i155_83, i155_86, i155_89, i155_90, i155_92, i155_95, i155_97, i155_99, i155_100, i155_103, i155_106, i155_108, i155_109, i155_111, i155_112, i155_115, nl_i, nl_r, nl_0, nl_j, nb0, nb1, nbI, orv_s, konN_v, konN_n, konN_e, true_and, and_true, and_self, if_true, if_false, ite_true, ite_false, isR_ref, true_or, or_true, bI_T, bI_F, bI_Fb, i1z, Bool.false_eq_true, k_140, f_140_1, f_140_8, f_140_9, f_140_10, f_140_11, f_140_15, f_140_0, f_140_2, f_140_3, f_140_4, f_140_5, f_140_6, f_140_7, f_140_12, f_140_13, f_140_14, w_140_0, w_140_2, w_140_3, w_140_4, w_140_5, w_140_6, w_140_7, w_140_12, w_140_13, w_140_14, k_141, l_141, a_141, wa_141, k_142, l_142, a_142, wa_142, k_143, l_143, a_143, wa_143, k_144, l_144, a_144, wa_144, pS_b, pS_up, mh_N, mh_S, mh_X, mh_alH, s_in0 hc, i1n0, r, hm]
    · have e : bst dv p o (b, m) = (b, m) := by
        unfold bst
        rw [if_pos hc]
        exact if_neg hm
      rw [e]
      refine ⟨J', X', Y', some (.int (p + o)), some (.int (dv (p + o))), hY', fun d K => ?_⟩
      rw [hp]
      simp only [i155_73, i155_75, i155_77, i155_80, i155_83, i155_86, i155_89, i155_90, i155_92, i155_95, i155_97, i155_99, i155_100, i155_103, i155_106, i155_108, i155_109, i155_111, i155_112, i155_115, nl_i, nl_r, nl_0, nl_j, nb0, nb1, nbI, orv_s, konN_v, konN_n, konN_e, true_and, and_true, and_self, if_true, if_false, ite_true, ite_false, isR_ref, true_or, or_true, bI_T, bI_F, bI_Fb, i1z, Bool.false_eq_true, k_140, f_140_1, f_140_8, f_140_9, f_140_10, f_140_11, f_140_15, f_140_0, f_140_2, f_140_3, f_140_4, f_140_5, f_140_6, f_140_7, f_140_12, f_140_13, f_140_14, w_140_0, w_140_2, w_140_3, w_140_4, w_140_5, w_140_6, w_140_7, w_140_12, w_140_13, w_140_14, k_141, l_141, a_141, wa_141, k_142, l_142, a_142, wa_142, k_143, l_143, a_143, wa_143, k_144, l_144, a_144, wa_144, pS_b, pS_up, mh_N, mh_S, mh_X, mh_alH, s_in0 hc, i1n0, r, hm]
  · have e : bst dv p o (b, m) = (b, m) := if_neg hc
    rw [e]
    refine ⟨J, X, Y, some (.int (p + o)), l6, hY, fun d K => ?_⟩
    rw [hp]
    simp only [i155_73, i155_75, i155_77, i155_80, i155_83, i155_86, i155_89, i155_90, i155_92, i155_95, i155_97, i155_99, i155_100, i155_103, i155_106, i155_108, i155_109, i155_111, i155_112, i155_115, nl_i, nl_r, nl_0, nl_j, nb0, nb1, nbI, orv_s, konN_v, konN_n, konN_e, true_and, and_true, and_self, if_true, if_false, ite_true, ite_false, isR_ref, true_or, or_true, bI_T, bI_F, bI_Fb, i1z, Bool.false_eq_true, k_140, f_140_1, f_140_8, f_140_9, f_140_10, f_140_11, f_140_15, f_140_0, f_140_2, f_140_3, f_140_4, f_140_5, f_140_6, f_140_7, f_140_12, f_140_13, f_140_14, w_140_0, w_140_2, w_140_3, w_140_4, w_140_5, w_140_6, w_140_7, w_140_12, w_140_13, w_140_14, k_141, l_141, a_141, wa_141, k_142, l_142, a_142, wa_142, k_143, l_143, a_143, wa_143, k_144, l_144, a_144, wa_144, pS_b, pS_up, mh_N, mh_S, mh_X, mh_alH, s_in1 hc]
theorem o_bestSetpoint (hG : GR h T S A G) : JI (h, T, U, S, A, J, G) 71 155 [] := by
  obtain ⟨t, q, sa, n, pg, nz, ns, hs, hN', hS, hI, hE, mm, hm, hC⟩ := hG.2.1
  have n6 := hS.1.2.1
  have d0 := hS.1.2.2
  have q0 := hS.1.1
  have i2 := hI.1.2.1
  by_cases hz : 0 < q 0
  · have h0 : 0 < nz := by rw [q0, nI_pz n6] at hz; exact hz
    have hzn : ¬ nz = 0 := by omega
    have e1 : nI nz - 1 = nI (nz - 1) := by
      obtain ⟨e, rfl⟩ : ∃ e, nz = e + 1 := ⟨nz - 1, by omega⟩
      exact nI_pred e
    obtain ⟨dv, hdv⟩ : ∃ dv : Int32 → Int32, ∀ x, dv x = dvF sa q pg n nz ns (S 28) (fun j => A (28 + j)) (fun _ => 0) x := ⟨_, fun _ => rfl⟩
    have hstk : ∀ stk x, 100 ≤ x ∧ x ≤ 900 → dvF sa q pg n nz ns (S 28) (fun j => A (28 + j)) stk x = dv x := fun stk x hx => (dv_stk h0 hI hE hS hx h T U J G).trans (hdv x).symm
    have cdv : ∀ (x : Int32), 100 ≤ x ∧ x ≤ 900 → ∀ (U : Nat → Nat → Int32) (f : Nat → Int32) (a : Nat → Nat → Int32) (g : Nat), ∃ U' f' a', ∀ d K, EvM (d + 12) 79 [.ref 0, .int x] (MH h T U (pS S 39 f) (pA A 39 a) J (upf G 39 g)) K = K (.inl (some (.int (dv x)))) (MH h T U' (pS S 39 f') (pA A 39 a') J (upf G 39 (G 28))) := fun x hx U f a g => by
      have := c_dw (x := x) (U := U) (f := f) (a := a) (g := g) (A := A) (J := J) (S := S) hs q0 n6 h0 hI.1.1 i2
      rw [hstk _ x hx] at this
      exact this
    obtain ⟨p, hp⟩ : ∃ p, A (28 + 1) (nz - 1) = p := ⟨_, rfl⟩
    have rp : 100 ≤ p ∧ p ≤ 900 := by rw [← hp]; exact (hI.2.2.2.1 (nz - 1) (by omega)).1
    have dp : A 142 (9 + 7 * (nz - 1)) = p := by rw [(hE.2.1 (nz - 1) (by omega)).1, ← hp]
    -- the class
    obtain ⟨U0, f0, a0, k0⟩ := cdv p rp U (S 39) (fun j => A (39 + j)) (G 39)
    have k0' : ∀ d K, EvM (d + 12) 79 [.ref 0, .int p] (MH h T U S A J G) K = K (.inl (some (.int (dv p)))) (MH h T U0 (pS S 39 f0) (pA A 39 a0) J (upf G 39 (G 28))) := fun d K => by
      have := k0 d K
      rw [pS_id, pA_id, upf_id] at this
      exact this
    obtain ⟨U1, f1, a1, g1, l61, l71, k1⟩ := cb_step (p := p) (b := p) (m := dv p) (sg := -1) (dd := 10) (o := -10) cdv rfl U0 f0 a0 (G 28) none none
    obtain ⟨U2, f2, a2, g2, l62, l72, k2⟩ := cb_step (p := p) (b := (bst dv p (-10) (p, dv p)).1) (m := (bst dv p (-10) (p, dv p)).2) (sg := 1) (dd := 10) (o := 10) cdv rfl U1 f1 a1 g1 l61 l71
    obtain ⟨v2, hv2⟩ : ∃ v, bst dv p 10 (bst dv p (-10) (p, dv p)) = v := ⟨_, rfl⟩
    obtain ⟨U3, f3, a3, g3, l63, l73, k3⟩ := cb_step (p := p) (b := v2.1) (m := v2.2) (sg := -1) (dd := 20) (o := -20) cdv rfl U2 f2 a2 g2 l62 l72
    obtain ⟨v3, hv3⟩ : ∃ v, bst dv p (-20) v2 = v := ⟨_, rfl⟩
    obtain ⟨U4, f4, a4, g4, l64, l74, k4⟩ := cb_step (p := p) (b := v3.1) (m := v3.2) (sg := 1) (dd := 20) (o := 20) cdv rfl U3 f3 a3 g3 l63 l73
    obtain ⟨v4, hv4⟩ : ∃ v, bst dv p 20 v3 = v := ⟨_, rfl⟩
    obtain ⟨U5, f5, a5, g5, l65, l75, k5⟩ := cb_step (p := p) (b := v4.1) (m := v4.2) (sg := -1) (dd := 30) (o := -30) cdv rfl U4 f4 a4 g4 l64 l74
    obtain ⟨v5, hv5⟩ : ∃ v, bst dv p (-30) v4 = v := ⟨_, rfl⟩
    obtain ⟨U6, f6, a6, g6, l66, l76, k6⟩ := cb_step (p := p) (b := v5.1) (m := v5.2) (sg := 1) (dd := 30) (o := 30) cdv rfl U5 f5 a5 g5 l65 l75
    obtain ⟨v6, hv6⟩ : ∃ v, bst dv p 30 v5 = v := ⟨_, rfl⟩
    obtain ⟨v1, hv1⟩ : ∃ v, bst dv p (-10) (p, dv p) = v := ⟨_, rfl⟩
    rw [hv1] at k1 k2 hv2
    rw [show ((v1.1, v1.2) : Int32 × Int32) = v1 from rfl, hv2] at k2
    rw [show ((v2.1, v2.2) : Int32 × Int32) = v2 from rfl, hv3] at k3
    rw [show ((v3.1, v3.2) : Int32 × Int32) = v3 from rfl, hv4] at k4
    rw [show ((v4.1, v4.2) : Int32 × Int32) = v4 from rfl, hv5] at k5
    rw [show ((v5.1, v5.2) : Int32 × Int32) = v5 from rfl, hv6] at k6
    -- the reference
    have rdv : ∀ (x : Int32), 100 ≤ x ∧ x ≤ 900 → ∀ (J : Nat → Nat → Int64) (X Y : Nat → Int32), deq (A 142) Y → ∃ J' X' Y', deq (A 142) Y' ∧ ∀ d K, EvM (d + 8) 154 [.ref 140, .int x] (MH h T U6 (up2 (pS S 39 f6) 140 0 0) (upf (upf (pA A 39 a6) 144 X) 142 Y) J (upf G 39 g6)) K = K (.inl (some (.int (dv x)))) (MH h T U6 (up2 (pS S 39 f6) 140 0 0) (upf (upf (pA A 39 a6) 144 X') 142 Y') J' (upf G 39 g6)) := fun x hx J X Y hY => by
      have s28 : up2 (pS S 39 f6) 140 0 0 28 = S 28 := funext fun k => by
        rw [up2_ne (fun z => absurd z.1 (by decide)), pS_ne (by decide)]
      have a142 : pA A 39 a6 142 = A 142 := pA_o (by omega)
      have := r_dw (h := h) (T := T) (U := U6) (S := up2 (pS S 39 f6) 140 0 0) (A := pA A 39 a6) (J := J) (G := upf G 39 g6) (X := X) (Y := Y) (a := fun j => A (28 + j)) (stk := fun _ => 0) h0 (by rw [s28]; exact hI) (by rw [s28, a142]; exact hE) (by rw [a142]; exact hS) (by rw [a142]; exact hY) hx
      rw [s28, a142, ← hdv] at this
      exact this
    obtain ⟨J0, X0, Y0, y0, r0⟩ := rdv p rp J (A 144) (A 142) deq_id
    obtain ⟨J1, X1, Y1, m1, n1, y1, r1⟩ := rb_step (k := 2) (p := p) (b := p) (m := dv p) (o := -10) rdv (by decide) rfl (by decide) J0 X0 Y0 y0 none none
    obtain ⟨J2, X2, Y2, m2, n2, y2, r2⟩ := rb_step (k := 3) (p := p) (b := v1.1) (m := v1.2) (o := 10) rdv (by decide) rfl (by decide) J1 X1 Y1 y1 m1 n1
    obtain ⟨J3, X3, Y3, m3, n3, y3, r3⟩ := rb_step (k := 4) (p := p) (b := v2.1) (m := v2.2) (o := -20) rdv (by decide) rfl (by decide) J2 X2 Y2 y2 m2 n2
    obtain ⟨J4, X4, Y4, m4, n4, y4, r4⟩ := rb_step (k := 5) (p := p) (b := v3.1) (m := v3.2) (o := 20) rdv (by decide) rfl (by decide) J3 X3 Y3 y3 m3 n3
    obtain ⟨J5, X5, Y5, m5, n5, y5, r5⟩ := rb_step (k := 6) (p := p) (b := v4.1) (m := v4.2) (o := -30) rdv (by decide) rfl (by decide) J4 X4 Y4 y4 m4 n4
    obtain ⟨J6, X6, Y6, m6, n6', y6, r6⟩ := rb_step (k := 7) (p := p) (b := v5.1) (m := v5.2) (o := 30) rdv (by decide) rfl (by decide) J5 X5 Y5 y5 m5 n5
    rw [hv1, show (2 : Int32) + 1 = 3 from rfl] at r1
    rw [show ((v1.1, v1.2) : Int32 × Int32) = v1 from rfl, hv2, show (3 : Int32) + 1 = 4 from rfl] at r2
    rw [show ((v2.1, v2.2) : Int32 × Int32) = v2 from rfl, hv3, show (4 : Int32) + 1 = 5 from rfl] at r3
    rw [show ((v3.1, v3.2) : Int32 × Int32) = v3 from rfl, hv4, show (5 : Int32) + 1 = 6 from rfl] at r4
    rw [show ((v4.1, v4.2) : Int32 × Int32) = v4 from rfl, hv5, show (6 : Int32) + 1 = 7 from rfl] at r5
    rw [show ((v5.1, v5.2) : Int32 × Int32) = v5 from rfl, hv6, show (7 : Int32) + 1 = 8 from rfl] at r6
    refine ⟨v6.1, (h, T, U6, pS S 39 f6, pA A 39 a6, J, upf G 39 g6), (h, T, U6, up2 (pS S 39 f6) 140 0 0, upf (upf (pA A 39 a6) 144 X6) 142 Y6, J6, upf G 39 g6), GN_p hG y6, fun d K => ?_, fun d K => ?_, rfl⟩
    · show EvM (d + 40) 71 [.ref 0] (MH h T U S A J G) K = K (.inl (some (.int v6.1))) (MH h T U6 (pS S 39 f6) (pA A 39 a6) J (upf G 39 g6))
      have b6 : inb (nI (nz - 1)) 6 = True := inbT (show nz - 1 < 6 by omega) (by omega)
      have hz2 : 0 < nI nz := by rw [← q0]; exact hz
      simp only [i71_0, i71_1, i71_4, i71_7, i71_10, i71_11, i71_12, i71_13, i71_16, i71_19, i71_20, i71_23, i71_26, i71_29, i71_30, i71_31, i71_32, i71_33, i71_34, i71_35, i71_36, i71_37, i71_40, i71_41, i71_43, in71, nl_i, nl_r, nl_0, nl_j, nb0, nb1, nbI, orv_s, konN_v, konN_n, konN_e, true_and, and_true, and_self, if_true, if_false, ite_true, ite_false, isR_ref, true_or, or_true, bI_T, bI_F, bI_Fb, i1z, Bool.false_eq_true, k_0, f_0_1, k_l0 hb28, k_l1 hb28, k_l2 hb28, k_l3 hb28, k_l4 hb28, k_l5 hb28, k_l6 hb28, k_l7 hb28, k_l8 hb28, k_l9 hb28, k_l10 hb28, l_l1 hb28, l_l2 hb28, l_l3 hb28, l_l4 hb28, l_l5 hb28, l_l6 hb28, l_l7 hb28, l_l8 hb28, l_l9 hb28, l_l10 hb28, a_l1 hb28, a_l2 hb28, a_l3 hb28, a_l4 hb28, a_l5 hb28, a_l6 hb28, a_l7 hb28, a_l8 hb28, a_l9 hb28, a_l10 hb28, wa_l1 hb28, wa_l2 hb28, wa_l3 hb28, wa_l4 hb28, wa_l5 hb28, wa_l6 hb28, wa_l7 hb28, wa_l8 hb28, wa_l9 hb28, wa_l10 hb28, f_l0 hb28, f_l1 hb28, f_l2 hb28, f_l3 hb28, f_l4 hb28, f_l5 hb28, f_l6 hb28, f_l7 hb28, f_l8 hb28, f_l9 hb28, f_l10 hb28, f_l11 hb28, f_l12 hb28, f_l13 hb28, f_l14 hb28, w_l0 hb28, w_l1 hb28, w_l2 hb28, w_l3 hb28, w_l4 hb28, su_k hs, su_f0 hs, su_f1 hs, su_f2 hs, su_f10 hs, su_tk hs, su_t0 hs, su_t1 hs, su_pk hs, su_pl hs, su_pa hs, su_sk hs, su_sl hs, su_sa hs, su_sw hs, su_f3 hs, su_k1 hs, su_l1 hs, su_a1 hs, su_f4 hs, su_k2 hs, su_l2 hs, su_a2 hs, su_f5 hs, su_k3 hs, su_l3 hs, su_a3 hs, su_f6 hs, su_k4 hs, su_l4 hs, su_a4 hs, su_f7 hs, su_k5 hs, su_l5 hs, su_a5 hs, su_f8 hs, su_k6 hs, su_l6 hs, su_a6 hs, su_f9 hs, su_k7 hs, su_l7 hs, su_a7 hs, p_exists hs, bI_t hz2, i1n0, q0, e1, b6, zn_nI (show nz - 1 < 2 ^ 31 by omega), hp, k0']
      rw [i71_45]
      simp only [i71_47, i71_49, i71_52, i71_53, i71_57, i71_58, i71_103, i71_106, i71_109, i71_112, i71_115, i71_116, nl_i, nl_r, nl_0, if_true, if_false, ite_true, ite_false, show ((30 : Int32) < 10) = False from eq_false (by decide)]
      rw [i71_55]
      simp only [i71_47, i71_49, i71_52, i71_53, i71_57, i71_58, i71_103, i71_106, i71_109, i71_112, i71_115, i71_116, nl_i, nl_r, nl_0, if_true, if_false, ite_true, ite_false, show ((1 : Int32) < -1) = False from eq_false (by decide)]
      simp only [k1]
      simp only [i71_47, i71_49, i71_52, i71_53, i71_57, i71_58, i71_103, i71_106, i71_109, i71_112, i71_115, i71_116, nl_i, nl_r, nl_0, if_true, if_false, ite_true, ite_false, show (-1 : Int32) + 2 = 1 from rfl]
      rw [i71_55]
      simp only [i71_47, i71_49, i71_52, i71_53, i71_57, i71_58, i71_103, i71_106, i71_109, i71_112, i71_115, i71_116, nl_i, nl_r, nl_0, if_true, if_false, ite_true, ite_false, show ((1 : Int32) < 1) = False from eq_false (by decide)]
      simp only [k2]
      simp only [i71_47, i71_49, i71_52, i71_53, i71_57, i71_58, i71_103, i71_106, i71_109, i71_112, i71_115, i71_116, nl_i, nl_r, nl_0, if_true, if_false, ite_true, ite_false, show (1 : Int32) + 2 = 3 from rfl]
      rw [i71_55]
      simp only [i71_47, i71_49, i71_52, i71_53, i71_57, i71_58, i71_103, i71_106, i71_109, i71_112, i71_115, i71_116, nl_i, nl_r, nl_0, if_true, if_false, ite_true, ite_false, show ((1 : Int32) < 3) = True from eq_true (by decide), show (10 : Int32) + 10 = 20 from rfl]
      rw [i71_45]
      simp only [i71_47, i71_49, i71_52, i71_53, i71_57, i71_58, i71_103, i71_106, i71_109, i71_112, i71_115, i71_116, nl_i, nl_r, nl_0, if_true, if_false, ite_true, ite_false, show ((30 : Int32) < 20) = False from eq_false (by decide)]
      rw [i71_55]
      simp only [i71_47, i71_49, i71_52, i71_53, i71_57, i71_58, i71_103, i71_106, i71_109, i71_112, i71_115, i71_116, nl_i, nl_r, nl_0, if_true, if_false, ite_true, ite_false, show ((1 : Int32) < -1) = False from eq_false (by decide)]
      simp only [k3]
      simp only [i71_47, i71_49, i71_52, i71_53, i71_57, i71_58, i71_103, i71_106, i71_109, i71_112, i71_115, i71_116, nl_i, nl_r, nl_0, if_true, if_false, ite_true, ite_false, show (-1 : Int32) + 2 = 1 from rfl]
      rw [i71_55]
      simp only [i71_47, i71_49, i71_52, i71_53, i71_57, i71_58, i71_103, i71_106, i71_109, i71_112, i71_115, i71_116, nl_i, nl_r, nl_0, if_true, if_false, ite_true, ite_false, show ((1 : Int32) < 1) = False from eq_false (by decide)]
      simp only [k4]
      simp only [i71_47, i71_49, i71_52, i71_53, i71_57, i71_58, i71_103, i71_106, i71_109, i71_112, i71_115, i71_116, nl_i, nl_r, nl_0, if_true, if_false, ite_true, ite_false, show (1 : Int32) + 2 = 3 from rfl]
      rw [i71_55]
      simp only [i71_47, i71_49, i71_52, i71_53, i71_57, i71_58, i71_103, i71_106, i71_109, i71_112, i71_115, i71_116, nl_i, nl_r, nl_0, if_true, if_false, ite_true, ite_false, show ((1 : Int32) < 3) = True from eq_true (by decide), show (20 : Int32) + 10 = 30 from rfl]
      rw [i71_45]
      simp only [i71_47, i71_49, i71_52, i71_53, i71_57, i71_58, i71_103, i71_106, i71_109, i71_112, i71_115, i71_116, nl_i, nl_r, nl_0, if_true, if_false, ite_true, ite_false, show ((30 : Int32) < 30) = False from eq_false (by decide)]
      rw [i71_55]
      simp only [i71_47, i71_49, i71_52, i71_53, i71_57, i71_58, i71_103, i71_106, i71_109, i71_112, i71_115, i71_116, nl_i, nl_r, nl_0, if_true, if_false, ite_true, ite_false, show ((1 : Int32) < -1) = False from eq_false (by decide)]
      simp only [k5]
      simp only [i71_47, i71_49, i71_52, i71_53, i71_57, i71_58, i71_103, i71_106, i71_109, i71_112, i71_115, i71_116, nl_i, nl_r, nl_0, if_true, if_false, ite_true, ite_false, show (-1 : Int32) + 2 = 1 from rfl]
      rw [i71_55]
      simp only [i71_47, i71_49, i71_52, i71_53, i71_57, i71_58, i71_103, i71_106, i71_109, i71_112, i71_115, i71_116, nl_i, nl_r, nl_0, if_true, if_false, ite_true, ite_false, show ((1 : Int32) < 1) = False from eq_false (by decide)]
      simp only [k6]
      simp only [i71_47, i71_49, i71_52, i71_53, i71_57, i71_58, i71_103, i71_106, i71_109, i71_112, i71_115, i71_116, nl_i, nl_r, nl_0, if_true, if_false, ite_true, ite_false, show (1 : Int32) + 2 = 3 from rfl]
      rw [i71_55]
      simp only [i71_47, i71_49, i71_52, i71_53, i71_57, i71_58, i71_103, i71_106, i71_109, i71_112, i71_115, i71_116, nl_i, nl_r, nl_0, if_true, if_false, ite_true, ite_false, show ((1 : Int32) < 3) = True from eq_true (by decide), show (30 : Int32) + 10 = 40 from rfl]
      rw [i71_45]
      simp only [i71_47, i71_49, i71_52, i71_53, i71_57, i71_58, i71_103, i71_106, i71_109, i71_112, i71_115, i71_116, nl_i, nl_r, nl_0, if_true, if_false, ite_true, ite_false, show ((30 : Int32) < 40) = True from eq_true (by decide)]
    · show EvM (d + 40) 155 [.ref 140] (MH h T U6 (pS S 39 f6) (pA A 39 a6) J (upf G 39 g6)) K = K (.inl (some (.int v6.1))) (MH h T U6 (up2 (pS S 39 f6) 140 0 0) (upf (upf (pA A 39 a6) 144 X6) 142 Y6) J6 (upf G 39 g6))
      have a142 : pA A 39 a6 142 = A 142 := pA_o (by omega)
      have a144 : pA A 39 a6 144 = A 144 := pA_o (by omega)
      have r0' : ∀ d K, EvM (d + 8) 154 [.ref 140, .int p] (MH h T U6 (up2 (pS S 39 f6) 140 0 0) (pA A 39 a6) J (upf G 39 g6)) K = K (.inl (some (.int (dv p)))) (MH h T U6 (up2 (pS S 39 f6) 140 0 0) (upf (upf (pA A 39 a6) 144 X0) 142 Y0) J0 (upf G 39 g6)) := fun d K => by
        have := r0 d K
        rw [← a144, upf_id, ← a142, upf_id] at this
        exact this
      have d0' : pA A 39 a6 142 0 = nI nz := by rw [a142]; exact d0
      have dp' : pA A 39 a6 142 (9 + 7 * (nz - 1)) = p := by rw [a142]; exact dp
      simp only [i155_0, i155_1, i155_2, i155_5, i155_6, i155_9, i155_12, i155_13, i155_14, i155_15, i155_18, i155_19, i155_22, i155_23, i155_24, i155_25, i155_26, i155_29, i155_30, i155_31, i155_32, i155_33, i155_34, i155_35, i155_38, i155_39, i155_40, in155, nl_i, nl_r, nl_0, nl_j, nb0, nb1, nbI, orv_s, konN_v, konN_n, konN_e, true_and, and_true, and_self, if_true, if_false, ite_true, ite_false, isR_ref, true_or, or_true, bI_T, bI_F, bI_Fb, i1z, Bool.false_eq_true, k_140, f_140_1, f_140_8, f_140_9, f_140_10, f_140_11, f_140_15, f_140_0, f_140_2, f_140_3, f_140_4, f_140_5, f_140_6, f_140_7, f_140_12, f_140_13, f_140_14, w_140_0, w_140_2, w_140_3, w_140_4, w_140_5, w_140_6, w_140_7, w_140_12, w_140_13, w_140_14, k_141, l_141, a_141, wa_141, k_142, l_142, a_142, wa_142, k_143, l_143, a_143, wa_143, k_144, l_144, a_144, wa_144, pS_b, pS_up, mh_N, mh_S, mh_X, mh_alH, s_ie d0' n6, bI_f hzn, ib_0, iz_0, d0', e1, s_zoneAt, inbT (show 9 + 7 * (nz - 1) < 1451 by omega) (show 1451 < 2 ^ 31 by omega), zn_nI (show 9 + 7 * (nz - 1) < 2 ^ 31 by omega), dp', r0', r1, r2, r3, r4, r5, r6]
      rw [i155_42]
      simp only [i155_44, i155_46, i155_118, i155_119, nl_i, nl_r, nl_0, nl_j, nb0, nb1, nbI, orv_s, konN_v, konN_n, konN_e, true_and, and_true, and_self, if_true, if_false, ite_true, ite_false, isR_ref, true_or, or_true, bI_T, bI_F, bI_Fb, i1z, Bool.false_eq_true, show ((8 : Int32) ≤ 8) = True from eq_true (by decide)]
  · have hz0 : nz = 0 := by
      rw [q0, nI_pz n6] at hz
      omega
    refine JI_r (-1) hG (fun d K => ?_) (fun d K => ?_)
    · simp only [i71_0, i71_1, i71_4, i71_7, i71_10, i71_11, i71_12, i71_13, i71_16, i71_19, i71_20, i71_23, i71_26, i71_29, i71_30, i71_31, i71_32, i71_33, i71_34, i71_35, i71_36, i71_37, i71_40, i71_41, i71_43, i71_47, i71_49, i71_52, i71_53, i71_57, i71_58, in71, nl_i, nl_r, nl_0, nl_j, nb0, nb1, nbI, orv_s, konN_v, konN_n, konN_e, true_and, and_true, and_self, if_true, if_false, ite_true, ite_false, isR_ref, true_or, or_true, bI_T, bI_F, bI_Fb, i1z, Bool.false_eq_true, k_0, f_0_1, k_l0 hb28, k_l1 hb28, k_l2 hb28, k_l3 hb28, k_l4 hb28, k_l5 hb28, k_l6 hb28, k_l7 hb28, k_l8 hb28, k_l9 hb28, k_l10 hb28, l_l1 hb28, l_l2 hb28, l_l3 hb28, l_l4 hb28, l_l5 hb28, l_l6 hb28, l_l7 hb28, l_l8 hb28, l_l9 hb28, l_l10 hb28, a_l1 hb28, a_l2 hb28, a_l3 hb28, a_l4 hb28, a_l5 hb28, a_l6 hb28, a_l7 hb28, a_l8 hb28, a_l9 hb28, a_l10 hb28, wa_l1 hb28, wa_l2 hb28, wa_l3 hb28, wa_l4 hb28, wa_l5 hb28, wa_l6 hb28, wa_l7 hb28, wa_l8 hb28, wa_l9 hb28, wa_l10 hb28, f_l0 hb28, f_l1 hb28, f_l2 hb28, f_l3 hb28, f_l4 hb28, f_l5 hb28, f_l6 hb28, f_l7 hb28, f_l8 hb28, f_l9 hb28, f_l10 hb28, f_l11 hb28, f_l12 hb28, f_l13 hb28, f_l14 hb28, w_l0 hb28, w_l1 hb28, w_l2 hb28, w_l3 hb28, w_l4 hb28, p_exists hs, bI_f hz]
    · simp only [i155_0, i155_1, i155_2, i155_5, i155_6, i155_9, i155_12, i155_13, i155_14, i155_15, i155_18, i155_19, i155_22, i155_23, i155_24, i155_25, i155_26, i155_29, i155_30, i155_31, i155_32, i155_33, i155_34, i155_35, i155_38, i155_39, i155_40, in155, nl_i, nl_r, nl_0, nl_j, nb0, nb1, nbI, orv_s, konN_v, konN_n, konN_e, true_and, and_true, and_self, if_true, if_false, ite_true, ite_false, isR_ref, true_or, or_true, bI_T, bI_F, bI_Fb, i1z, Bool.false_eq_true, k_140, f_140_1, f_140_8, f_140_9, f_140_10, f_140_11, f_140_15, f_140_0, f_140_2, f_140_3, f_140_4, f_140_5, f_140_6, f_140_7, f_140_12, f_140_13, f_140_14, w_140_0, w_140_2, w_140_3, w_140_4, w_140_5, w_140_6, w_140_7, w_140_12, w_140_13, w_140_14, k_141, l_141, a_141, wa_141, k_142, l_142, a_142, wa_142, k_143, l_143, a_143, wa_143, k_144, l_144, a_144, wa_144, pS_b, pS_up, mh_N, mh_S, mh_X, mh_alH, s_ie d0 n6, bI_t hz0, i1n0]
end BS
