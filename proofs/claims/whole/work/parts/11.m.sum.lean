/-! FACE: checksum -/
def JL (c : HP) (mc mr : Nat) (as : List Value) : Prop := ∃ (v : Int64) (c1 c2 : HP), GN c c2 ∧ (∀ d K, EvM (d + 40) mc (.ref 0 :: as) (mH c) K = K (.inl (some (.long v))) (mH c1)) ∧ (∀ d K, EvM (d + 40) mr (.ref 140 :: as) (mH c1) K = K (.inl (some (.long v))) (mH c2)) ∧ hX c1.1 = hX c.1
section CK
variable {d : Nat} {h : AH} {hh : AH} {T : Nat → Bool} {U S A : Nat → Nat → Int32} {J : Nat → Nat → Int64} {G : Nat → Nat} {K : AO → AH → Prop} {c : HP} {x y : Int32} {nz ns t n : Nat} {q pg f D : Nat → Int32} {a sa : Nat → Nat → Int32}
theorem p01 : (0 : Int32) + 1 = 1 := rfl
theorem p12 : (1 : Int32) + 1 = 2 := rfl
theorem p23 : (2 : Int32) + 1 = 3 := rfl
theorem p34 : (3 : Int32) + 1 = 4 := rfl
theorem l30 : ((3 : Int32) ≤ 0) = False := eq_false (by decide)
theorem l31 : ((3 : Int32) ≤ 1) = False := eq_false (by decide)
theorem l32 : ((3 : Int32) ≤ 2) = False := eq_false (by decide)
theorem l33 : ((3 : Int32) ≤ 3) = True := eq_true (by decide)
theorem lt30 : ((3 : Int32) < 0) = False := eq_false (by decide)
theorem lt31 : ((3 : Int32) < 1) = False := eq_false (by decide)
theorem lt32 : ((3 : Int32) < 2) = False := eq_false (by decide)
theorem lt33 : ((3 : Int32) < 3) = False := eq_false (by decide)
theorem lt34 : ((3 : Int32) < 4) = True := eq_true (by decide)
theorem rg_t (hE : EQL nz ns f a D) : ∀ m k e l4, k + m = 20 → Ev (d + 1) 164 157 [some (.ref 140), some (.long e), none, some (.int (nI k)), l4] [] (dH c J D) K = K (.inl (some (.long (itn (dgT a) k m e)))) (dH c J D)
  | 0, k, e, l4, hk => by
    obtain rfl : k = 20 := by omega
    rw [i164_157]
    simp only [i164_158, i164_160, i164_204, i164_205, nl_i, nl_r, nl_0, nl_j, nb0, nb1, nbI, orv_s, konN_v, konN_n, konN_e, true_and, and_true, and_self, if_true, if_false, ite_true, ite_false, isR_ref, true_or, or_true, bI_T, bI_F, bI_Fb, i1z, Bool.false_eq_true, show ((19 : Int32) < nI 20) = True from eq_true (by decide), itn]
  | m + 1, k, e, l4, hk => by
    have k20 : k < 20 := by omega
    obtain ⟨e0, e1, e2, e3⟩ := hE.2.2.2 k k20
    have ih := rg_t hE m (k + 1) (dgT a k e) (some (.int 4)) (by omega)
    rw [i164_157]
    simp only [i164_158, i164_160, i164_163, i164_164, nl_i, nl_r, nl_0, nl_j, nb0, nb1, nbI, orv_s, konN_v, konN_n, konN_e, true_and, and_true, and_self, if_true, if_false, ite_true, ite_false, isR_ref, true_or, or_true, bI_T, bI_F, bI_Fb, i1z, Bool.false_eq_true, nI_lt19 (show k < 2 ^ 31 by omega), k20, not_true]
    rw [itn, ← ih]
    iterate 5
      rw [i164_166]
      simp only [i164_168, i164_169, i164_172, i164_175, i164_176, i164_177, i164_178, i164_181, i164_182, i164_185, i164_187, i164_188, i164_189, i164_190, i164_191, i164_192, i164_195, i164_198, i164_201, nl_i, nl_r, nl_0, nl_j, nb0, nb1, nbI, orv_s, konN_v, konN_n, konN_e, true_and, and_true, and_self, if_true, if_false, ite_true, ite_false, isR_ref, true_or, or_true, bI_T, bI_F, bI_Fb, i1z, Bool.false_eq_true, d_k, d_f8, d_k2, d_l2, d_a2, d_wa2, s_zoneAt, s_sheetAt, s_kindAt, nI_1, nI_p2, nI_p3, nI_p4, nI_p5, nI_p6, ib_0, ib_1, ib_2, ib_3, ib_4, ib_5, ib_6, ib_7, ib_8, iz_0, iz_1, iz_2, iz_3, iz_4, iz_5, iz_6, iz_7, iz_8, ze_0, ze_1, ze_2, ze_3, ze_4, ze_5, ze_6, ze_7, ze_8, lt30, lt31, lt32, lt33, lt34, p01, p12, p23, p34, nI_p0, nI_1, nI_p2, nI_p3, inbT (show 111 + 7 * k < 1451 by omega) (show 1451 < 2 ^ 31 by omega), zn_nI (show 111 + 7 * k < 2 ^ 31 by omega), inbT (show 111 + 7 * k + 1 < 1451 by omega) (show 1451 < 2 ^ 31 by omega), zn_nI (show 111 + 7 * k + 1 < 2 ^ 31 by omega), inbT (show 111 + 7 * k + 2 < 1451 by omega) (show 1451 < 2 ^ 31 by omega), zn_nI (show 111 + 7 * k + 2 < 2 ^ 31 by omega), inbT (show 111 + 7 * k + 3 < 1451 by omega) (show 1451 < 2 ^ 31 by omega), zn_nI (show 111 + 7 * k + 3 < 2 ^ 31 by omega), e0, e1, e2, e3]
    rfl
theorem rg_s (hE : EQL nz ns f a D) (hns : ns ≤ 20) : ∀ m k e l4, k + m = ns → ∃ l4', Ev (d + 1) 164 104 [some (.ref 140), some (.long e), none, some (.int (nI k)), l4] [] (dH c J D) K = Ev (d + 1) 164 157 [some (.ref 140), some (.long (itn (dgS a) k m e)), none, some (.int (nI 2)), l4'] [] (dH c J D) K
  | 0, k, e, l4, hk => by
    obtain rfl : k = ns := by omega
    refine ⟨l4, ?_⟩
    rw [i164_104]
    simp only [i164_105, i164_106, i164_109, i164_110, i164_111, i164_155, i164_156, nl_i, nl_r, nl_0, nl_j, nb0, nb1, nbI, orv_s, konN_v, konN_n, konN_e, true_and, and_true, and_self, if_true, if_false, ite_true, ite_false, isR_ref, true_or, or_true, bI_T, bI_F, bI_Fb, i1z, Bool.false_eq_true, d_k, d_f8, d_k2, d_l2, d_a2, d_wa2, s_zoneAt, s_sheetAt, s_kindAt, nI_1, nI_p2, nI_p3, nI_p4, nI_p5, nI_p6, ib_0, ib_1, ib_2, ib_3, ib_4, ib_5, ib_6, ib_7, ib_8, iz_0, iz_1, iz_2, iz_3, iz_4, iz_5, iz_6, iz_7, iz_8, ze_0, ze_1, ze_2, ze_3, ze_4, ze_5, ze_6, ze_7, ze_8, hE.1.1, show (nI k ≤ nI k) = True from eq_true (Int32.le_refl _), itn]
    rfl
  | m + 1, k, e, l4, hk => by
    have k20 : k < ns := by omega
    obtain ⟨e0, e1, e2⟩ := hE.2.2.1 k k20
    obtain ⟨l4', ih⟩ := rg_s hE hns m (k + 1) (dgS a k e) (some (.int 3)) (by omega)
    have hle : (nI ns ≤ nI k) = False := eq_false (fun y => by
      have := (nI_leI (a := ns) (b := k) (by omega) (by omega)).mp y
      omega)
    refine ⟨l4', ?_⟩
    rw [i164_104]
    simp only [i164_105, i164_106, i164_109, i164_110, i164_111, i164_114, i164_115, nl_i, nl_r, nl_0, nl_j, nb0, nb1, nbI, orv_s, konN_v, konN_n, konN_e, true_and, and_true, and_self, if_true, if_false, ite_true, ite_false, isR_ref, true_or, or_true, bI_T, bI_F, bI_Fb, i1z, Bool.false_eq_true, d_k, d_f8, d_k2, d_l2, d_a2, d_wa2, s_zoneAt, s_sheetAt, s_kindAt, nI_1, nI_p2, nI_p3, nI_p4, nI_p5, nI_p6, ib_0, ib_1, ib_2, ib_3, ib_4, ib_5, ib_6, ib_7, ib_8, iz_0, iz_1, iz_2, iz_3, iz_4, iz_5, iz_6, iz_7, iz_8, ze_0, ze_1, ze_2, ze_3, ze_4, ze_5, ze_6, ze_7, ze_8, hE.1.1, hle]
    rw [itn, ← ih]
    iterate 4
      rw [i164_117]
      simp only [i164_119, i164_120, i164_123, i164_126, i164_127, i164_128, i164_129, i164_132, i164_133, i164_136, i164_138, i164_139, i164_140, i164_141, i164_142, i164_143, i164_146, i164_149, i164_152, nl_i, nl_r, nl_0, nl_j, nb0, nb1, nbI, orv_s, konN_v, konN_n, konN_e, true_and, and_true, and_self, if_true, if_false, ite_true, ite_false, isR_ref, true_or, or_true, bI_T, bI_F, bI_Fb, i1z, Bool.false_eq_true, d_k, d_f8, d_k2, d_l2, d_a2, d_wa2, s_zoneAt, s_sheetAt, s_kindAt, nI_1, nI_p2, nI_p3, nI_p4, nI_p5, nI_p6, ib_0, ib_1, ib_2, ib_3, ib_4, ib_5, ib_6, ib_7, ib_8, iz_0, iz_1, iz_2, iz_3, iz_4, iz_5, iz_6, iz_7, iz_8, ze_0, ze_1, ze_2, ze_3, ze_4, ze_5, ze_6, ze_7, ze_8, l30, l31, l32, l33, p01, p12, p23, nI_p0, nI_1, nI_p2, inbT (show 51 + 3 * k < 1451 by omega) (show 1451 < 2 ^ 31 by omega), zn_nI (show 51 + 3 * k < 2 ^ 31 by omega), inbT (show 51 + 3 * k + 1 < 1451 by omega) (show 1451 < 2 ^ 31 by omega), zn_nI (show 51 + 3 * k + 1 < 2 ^ 31 by omega), inbT (show 51 + 3 * k + 2 < 1451 by omega) (show 1451 < 2 ^ 31 by omega), zn_nI (show 51 + 3 * k + 2 < 2 ^ 31 by omega), e0, e1, e2]
    rfl
theorem rg_z (hE : EQL nz ns f a D) (d0 : D 0 = nI nz) (hnz : nz ≤ 6) : ∀ m k e l4, k + m = nz → Ev (d + 2) 164 15 [some (.ref 140), some (.long e), none, some (.int (nI k)), l4] [] (dH c J D) K = Ev (d + 2) 164 76 [some (.ref 140), some (.long (itn (dgZ a) k m e)), none, some (.int (nI nz)), l4] [] (dH c J D) K
  | 0, k, e, l4, hk => by
    obtain rfl : k = nz := by omega
    rw [i164_15]
    simp only [i164_16, i164_17, i164_20, i164_21, i164_22, nl_i, nl_r, nl_0, nl_j, nb0, nb1, nbI, orv_s, konN_v, konN_n, konN_e, true_and, and_true, and_self, if_true, if_false, ite_true, ite_false, isR_ref, true_or, or_true, bI_T, bI_F, bI_Fb, i1z, Bool.false_eq_true, d_k, d_f8, d_k2, d_l2, d_a2, d_wa2, s_zoneAt, s_sheetAt, s_kindAt, nI_1, nI_p2, nI_p3, nI_p4, nI_p5, nI_p6, ib_0, ib_1, ib_2, ib_3, ib_4, ib_5, ib_6, ib_7, ib_8, iz_0, iz_1, iz_2, iz_3, iz_4, iz_5, iz_6, iz_7, iz_8, ze_0, ze_1, ze_2, ze_3, ze_4, ze_5, ze_6, ze_7, ze_8, d0, show (nI k ≤ nI k) = True from eq_true (Int32.le_refl _), itn]
  | m + 1, k, e, l4, hk => by
    have k20 : k < nz := by omega
    obtain ⟨e0, e1, e2⟩ := hE.2.1 k k20
    have ih := rg_z hE d0 hnz m (k + 1) (dgZ a k e) l4 (by omega)
    have hle : (nI nz ≤ nI k) = False := eq_false (fun y => by
      have := (nI_leI (a := nz) (b := k) (by omega) (by omega)).mp y
      omega)
    rw [itn, ← ih, i164_15]
    simp only [i164_16, i164_17, i164_20, i164_21, i164_22, i164_25, i164_28, i164_31, i164_34, i164_35, i164_36, i164_37, i164_40, i164_41, i164_44, i164_45, i164_46, i164_47, i164_48, i164_49, i164_52, i164_53, i164_56, i164_57, i164_58, i164_59, i164_60, i164_61, i164_62, i164_63, i164_64, i164_67, i164_68, i164_69, i164_70, i164_73, nl_i, nl_r, nl_0, nl_j, nb0, nb1, nbI, orv_s, konN_v, konN_n, konN_e, true_and, and_true, and_self, if_true, if_false, ite_true, ite_false, isR_ref, true_or, or_true, bI_T, bI_F, bI_Fb, i1z, Bool.false_eq_true, d_k, d_f8, d_k2, d_l2, d_a2, d_wa2, s_zoneAt, s_sheetAt, s_kindAt, nI_1, nI_p2, nI_p3, nI_p4, nI_p5, nI_p6, ib_0, ib_1, ib_2, ib_3, ib_4, ib_5, ib_6, ib_7, ib_8, iz_0, iz_1, iz_2, iz_3, iz_4, iz_5, iz_6, iz_7, iz_8, ze_0, ze_1, ze_2, ze_3, ze_4, ze_5, ze_6, ze_7, ze_8, d0, hle, s_held (show k < 6 by omega), inbT (show 9 + 7 * k < 1451 by omega) (show 1451 < 2 ^ 31 by omega), zn_nI (show 9 + 7 * k < 2 ^ 31 by omega), inbT (show 9 + 7 * k + 5 < 1451 by omega) (show 1451 < 2 ^ 31 by omega), zn_nI (show 9 + 7 * k + 5 < 2 ^ 31 by omega), nI_p5, e0, e1, e2, i1c, nI_1]
    rfl
theorem i64_as {x y z : Int64} : x + y - z = x + (y - z) := by rw [Int64.sub_eq_add_neg, Int64.sub_eq_add_neg, Int64.add_assoc]
theorem q_long : ∀ s, s < 20 → (nI (s + 1)).toInt64 - 1 = (nI s).toInt64 := by decide +kernel
theorem s_mSum (hE : EQL nz ns f a D) (hI : INV nz ns f a) (hS : STA nz q sa n pg D) : ∀ (d : Nat) (K : AO → AH → Prop), Ev (d + 3) 164 5 [some (.ref 140), none, none, none, none] [] (dH c J D) K = K (.inl (some (.long (digL q f a)))) (dH c J D) := by
  intro d K
  have n6 := hS.1.2.1
  have n20 := hI.1.2.1
  have z := rg_z (d := d + 1) (c := c) (J := J) (K := K) hE hS.1.2.2 n6 nz 0 (f 1).toInt64 none (by omega)
  obtain ⟨l4, s⟩ := rg_s (d := d + 2) (c := c) (J := J) (K := K) hE n20 ns 0 (31 * (31 * (itn (dgZ a) 0 nz (f 1).toInt64) + (f 3).toInt64) + (f 4).toInt64) none (by omega)
  have tt := rg_t (d := d + 2) (c := c) (J := J) (K := K) hE 18 2 (itn (dgS a) 0 ns (31 * (31 * (itn (dgZ a) 0 nz (f 1).toInt64) + (f 3).toInt64) + (f 4).toInt64)) l4 (by omega)
  rw [tt, nI_0] at s
  rw [nI_0] at z
  have e5 : (D 5).toInt64 - 1 = (f 3).toInt64 ∧ (if D 5 = 0 then 0 else D 6) = f 4 := by
    rw [hE.1.2.2.1]
    rcases hI.2.1 with ⟨e1, e2⟩ | ⟨s, s1, s2, s3, s4⟩
    · rw [e1, e2]
      exact ⟨by decide, rfl⟩
    · have n0 : ¬ nI (s + 1) = 0 := fun y => by
        have := (nI_eq (a := s + 1) (b := 0) (by omega) (by omega)).mp y
        omega
      have d6 : D 6 = f 4 := by
        rcases hE.1.2.2.2 with z | z
        · rw [z] at s2
          exact absurd s2 (fun y => nI_nm1 (by omega) y.symm)
        · exact z
      rw [s2, nI_1, if_neg n0]
      exact ⟨q_long s (by omega), d6⟩
  have ed : digL q f a = itn (dgT a) 2 18 (itn (dgS a) 0 ns (31 * (31 * (itn (dgZ a) 0 nz (f 1).toInt64) + (f 3).toInt64) + (f 4).toInt64)) := by
    unfold digL
    rw [hS.1.1, hI.1.1, show zn (nI nz) = nz from zn_nI (by omega), show zn (nI ns) = ns from zn_nI (by omega)]
  rw [ed, ← s]
  have lf : ∀ d K, EvM d 143 [.ref 140] (dH c J D) K = K (.inl (some (.int (f 4)))) (dH c J D) := fun d K => by
    rw [← e5.2]
    by_cases h5 : D 5 = 0
    · simp only [in143, i143_0, i143_1, i143_4, i143_5, i143_6, i143_9, i143_10, i143_13, i143_14, i143_17, i143_19, i143_20, nl_i, nl_r, nl_0, nl_j, nb0, nb1, nbI, orv_s, konN_v, konN_n, konN_e, true_and, and_true, and_self, if_true, if_false, ite_true, ite_false, isR_ref, true_or, or_true, bI_T, bI_F, bI_Fb, i1z, Bool.false_eq_true, d_k, d_f8, d_k2, d_l2, d_a2, d_wa2, s_zoneAt, s_sheetAt, s_kindAt, nI_1, nI_p2, nI_p3, nI_p4, nI_p5, nI_p6, ib_0, ib_1, ib_2, ib_3, ib_4, ib_5, ib_6, ib_7, ib_8, iz_0, iz_1, iz_2, iz_3, iz_4, iz_5, iz_6, iz_7, iz_8, ze_0, ze_1, ze_2, ze_3, ze_4, ze_5, ze_6, ze_7, ze_8, h5]
    · simp only [in143, i143_0, i143_1, i143_4, i143_5, i143_6, i143_9, i143_10, i143_13, i143_14, i143_17, i143_19, i143_20, nl_i, nl_r, nl_0, nl_j, nb0, nb1, nbI, orv_s, konN_v, konN_n, konN_e, true_and, and_true, and_self, if_true, if_false, ite_true, ite_false, isR_ref, true_or, or_true, bI_T, bI_F, bI_Fb, i1z, Bool.false_eq_true, d_k, d_f8, d_k2, d_l2, d_a2, d_wa2, s_zoneAt, s_sheetAt, s_kindAt, nI_1, nI_p2, nI_p3, nI_p4, nI_p5, nI_p6, ib_0, ib_1, ib_2, ib_3, ib_4, ib_5, ib_6, ib_7, ib_8, iz_0, iz_1, iz_2, iz_3, iz_4, iz_5, iz_6, iz_7, iz_8, ze_0, ze_1, ze_2, ze_3, ze_4, ze_5, ze_6, ze_7, ze_8, h5]
  simp only [i164_5, i164_6, i164_9, i164_10, i164_11, i164_12, i164_13, i164_14, nl_i, nl_r, nl_0, nl_j, nb0, nb1, nbI, orv_s, konN_v, konN_n, konN_e, true_and, and_true, and_self, if_true, if_false, ite_true, ite_false, isR_ref, true_or, or_true, bI_T, bI_F, bI_Fb, i1z, Bool.false_eq_true, d_k, d_f8, d_k2, d_l2, d_a2, d_wa2, s_zoneAt, s_sheetAt, s_kindAt, nI_1, nI_p2, nI_p3, nI_p4, nI_p5, nI_p6, ib_0, ib_1, ib_2, ib_3, ib_4, ib_5, ib_6, ib_7, ib_8, iz_0, iz_1, iz_2, iz_3, iz_4, iz_5, iz_6, iz_7, iz_8, ze_0, ze_1, ze_2, ze_3, ze_4, ze_5, ze_6, ze_7, ze_8, hE.1.2.1, z, i164_76, i164_79, i164_82, i164_83, i164_84, i164_85, i164_88, i164_89, i164_90, i164_91, i164_92, i164_93, i164_94, i164_95, i164_96, i164_99, i164_100, i164_101, i164_102, i164_103, i64_as, e5.1, lf]
theorem o_checksum (hG : GR h T S A G) : JL (h, T, U, S, A, J, G) 78 164 [] := by
  obtain ⟨t, q, sa, n, pg, nz, ns, hs, hN', hS, hI, hE, m, hm, hC⟩ := hG.2.1
  have i2 := hI.1.2.1
  have r := s_mSum (c := (h, T, U, up2 S 140 0 0, A, J, G)) (J := J) hE hI hS
  refine ⟨digL q (S 28) (fun j => A (28 + j)), (h, T, U, S, A, J, G), (h, T, U, up2 S 140 0 0, A, J, G), GN_t hG, fun d K => ?_, fun d K => ?_, rfl⟩
  · show EvM (d + 40) 78 [.ref 0] (MH h T U S A J G) K = K (.inl (some (.long (digL q (S 28) (fun j => A (28 + j)))))) (MH h T U S A J G)
    have e := fun d K => s_digest (d := d) (h := h) (T := T) (U := U) (S := S) (A := A) (J := J) (G := G) (K := K) (f := S 28) (a := fun j => A (28 + j)) hb28 hs (by rw [hI.1.1, show zn (nI ns) = ns from zn_nI (by omega)]; exact i2)
    rw [pS_id, pA_id] at e
    simp only [in78, i78_0, i78_1, i78_4, i78_7, nl_i, nl_r, nl_0, nl_j, nb0, nb1, nbI, orv_s, konN_v, konN_n, konN_e, true_and, and_true, and_self, if_true, if_false, ite_true, ite_false, isR_ref, true_or, or_true, bI_T, bI_F, bI_Fb, i1z, Bool.false_eq_true, k_0, f_0_1, k_l0 hb28, k_l1 hb28, k_l2 hb28, k_l3 hb28, k_l4 hb28, k_l5 hb28, k_l6 hb28, k_l7 hb28, k_l8 hb28, k_l9 hb28, k_l10 hb28, l_l1 hb28, l_l2 hb28, l_l3 hb28, l_l4 hb28, l_l5 hb28, l_l6 hb28, l_l7 hb28, l_l8 hb28, l_l9 hb28, l_l10 hb28, a_l1 hb28, a_l2 hb28, a_l3 hb28, a_l4 hb28, a_l5 hb28, a_l6 hb28, a_l7 hb28, a_l8 hb28, a_l9 hb28, a_l10 hb28, wa_l1 hb28, wa_l2 hb28, wa_l3 hb28, wa_l4 hb28, wa_l5 hb28, wa_l6 hb28, wa_l7 hb28, wa_l8 hb28, wa_l9 hb28, wa_l10 hb28, f_l0 hb28, f_l1 hb28, f_l2 hb28, f_l3 hb28, f_l4 hb28, f_l5 hb28, f_l6 hb28, f_l7 hb28, f_l8 hb28, f_l9 hb28, f_l10 hb28, f_l11 hb28, f_l12 hb28, f_l13 hb28, f_l14 hb28, w_l0 hb28, w_l1 hb28, w_l2 hb28, w_l3 hb28, w_l4 hb28, e]
  · show EvM (d + 40) 164 [.ref 140] (MH h T U S A J G) K = K (.inl (some (.long (digL q (S 28) (fun j => A (28 + j)))))) (MH h T U (up2 S 140 0 0) A J G)
    have r2 : Ev (d + 40) 164 5 [some (.ref 140), none, none, none, none] [] (MH h T U (up2 S 140 0 0) A J G) K = K (.inl (some (.long (digL q (S 28) (fun j => A (28 + j)))))) (MH h T U (up2 S 140 0 0) A J G) := by
      have := r (d + 37) K
      unfold dH at this
      rw [upf_id] at this
      exact this
    simp only [i164_0, i164_1, i164_2, in164, nl_i, nl_r, nl_0, nl_j, nb0, nb1, nbI, orv_s, konN_v, konN_n, konN_e, true_and, and_true, and_self, if_true, if_false, ite_true, ite_false, isR_ref, true_or, or_true, bI_T, bI_F, bI_Fb, i1z, Bool.false_eq_true, k_140, f_140_1, f_140_8, f_140_9, f_140_10, f_140_11, f_140_15, f_140_0, f_140_2, f_140_3, f_140_4, f_140_5, f_140_6, f_140_7, f_140_12, f_140_13, f_140_14, w_140_0, w_140_2, w_140_3, w_140_4, w_140_5, w_140_6, w_140_7, w_140_12, w_140_13, w_140_14, k_141, l_141, a_141, wa_141, k_142, l_142, a_142, wa_142, k_143, l_143, a_143, wa_143, k_144, l_144, a_144, wa_144, pS_b, pS_up, mh_N, mh_S, mh_X, mh_alH, r2]
end CK
