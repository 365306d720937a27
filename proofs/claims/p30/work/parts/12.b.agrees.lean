/-! AGREES -/
section AGR
variable {d l nz ns t m : Nat} {g : AH} {T : Nat → Bool} {U S A : Nat → Nat → Int32} {J : Nat → Nat → Int64} {G : Nat → Nat} {K : AO → AH → Prop} {q pg p : Nat → Int32} {sa : Nat → Nat → Int32} {B : Nat → Prop} {D : Nat → Nat → Nat} {tv : Value}
theorem FX.ho (x : FX g T U S A J G) : MH (alH g) T U S A J G = alH g := by
  have e : alH (MH g T U S A J G) = alH g := by rw [← x.1]
  exact mh_alH.symm.trans e
theorem s_agr1 (x : FX g T U S A J G) (hs : SUp g T (G 28) t q sa m pg) (hL : LLn g B l D nz ns q sa tv pg m (S 28) (fun j => A (28 + j)) p) : ∀ k z, z + k = nz → Ev (d + 14) 141 90 [some (.ref 0), some (.ref l), some (.int 1), some (.int (nI z))] [] g K = Ev (d + 14) 141 164 [some (.ref 0), some (.ref l), some (.int 1), some (.int 0)] [] g K
  | 0, z, hz => by
    have hR := hL.1
    have n6 := hL.2.2.2.2.2.1.2
    have c : (nI nz ≤ nI z) = True := eq_true (by rw [show z = nz by omega]; exact Int32.le_refl _)
    rw [i141_90]
    simp only [i141_91, i141_92, i141_95, i141_96, i141_99, i141_100, i141_103, i141_104, i141_105, i141_106, i141_109, i141_110, i141_113, i141_114, i141_115, i141_116, i141_117, i141_120, i141_121, i141_122, i141_123, i141_126, i141_127, i141_130, i141_131, i141_132, i141_135, i141_136, i141_137, i141_139, i141_142, i141_143, i141_144, i141_147, i141_150, i141_151, i141_154, i141_155, i141_156, i141_159, i141_162, i141_163, nl_i, nl_r, nl_0, nl_j, nb0, nb1, nbI, orv_s, konN_v, konN_n, konN_e, true_and, and_true, and_self, if_true, if_false, ite_true, ite_false, isR_ref, true_or, or_true, isR_null, rg10, rg11, rg12, rg13, rg14, rg15, rg16, rh13, rh14, rh15, rh16, bI_T, bI_F, bI_Fb, i1z, Bool.false_eq_true, lc_k hR, lc_f0 hR, lc_f1 hR, lc_f2 hR, lc_f4 hR, lc_f5 hR, lc_f6 hR, lc_f7 hR, lc_f8 hR, lc_f9 hR, lc_k0 hR, lc_l0 hR, lc_k1 hR, lc_l1 hR, lc_k2 hR, lc_l2 hR, lc_k3 hR, lc_l3 hR, lc_k4 hR, lc_l4 hR, c]
  | k + 1, z, hz => by
    have hR := hL.1
    have n6 := hL.2.2.2.2.2.1.2
    have hI := hL.2.2.2.1
    have hP := hL.2.2.2.2.1
    have hz' : z < nz := by omega
    have ih := s_agr1 x hs hL k (z + 1) (by omega)
    have c : (nI nz ≤ nI z) = False := eq_false (fun y => by
      have := (nI_leI (a := nz) (b := z) (by omega) (by omega)).mp y
      omega)
    have q0 := hL.2.2.2.2.2.1.1
    have hq : 0 ≤ nI z ∧ nI z < q 0 := by
      rw [q0]
      exact ⟨nI_pos' (by omega), by rw [lt_nI (by omega) (by omega)]; exact hz'⟩
    have i6 : inb (nI z) 6 = True := inbT (by omega) (by omega)
    have zz : zn (nI z) = z := zn_nI (by omega)
    have e0 := fun d K => c_zone0 (d := d) (h := g) (U := U) (S := S) (A := A) (J := J) (K := K) hs hq i6
    have e5 := fun d K => c_zone5 (d := d) (h := g) (U := U) (S := S) (A := A) (J := J) (K := K) hs hq i6
    have e6 := fun d K => c_zone6 (d := d) (h := g) (U := U) (S := S) (A := A) (J := J) (K := K) hs hq i6
    simp only [← x.1, zz] at e0 e5 e6
    have az := fun d K => s_atz (d := d) (K := K) hR hI hP hz'
    have iz : inb (nI z) nz = True := inbT hz' (by omega)
    have i1 : nI z + 1 = nI (z + 1) := nI_add z 1
    rw [i141_90]
    simp only [i141_91, i141_92, i141_95, i141_96, i141_99, i141_100, i141_103, i141_104, i141_105, i141_106, i141_109, i141_110, i141_113, i141_114, i141_115, i141_116, i141_117, i141_120, i141_121, i141_122, i141_123, i141_126, i141_127, i141_130, i141_131, i141_132, i141_135, i141_136, i141_137, i141_139, i141_142, i141_143, i141_144, i141_147, i141_150, i141_151, i141_154, i141_155, i141_156, i141_159, i141_162, i141_163, nl_i, nl_r, nl_0, nl_j, nb0, nb1, nbI, orv_s, konN_v, konN_n, konN_e, true_and, and_true, and_self, if_true, if_false, ite_true, ite_false, isR_ref, true_or, or_true, isR_null, rg10, rg11, rg12, rg13, rg14, rg15, rg16, rh13, rh14, rh15, rh16, bI_T, bI_F, bI_Fb, i1z, Bool.false_eq_true, lc_k hR, lc_f0 hR, lc_f1 hR, lc_f2 hR, lc_f4 hR, lc_f5 hR, lc_f6 hR, lc_f7 hR, lc_f8 hR, lc_f9 hR, lc_k0 hR, lc_l0 hR, lc_k1 hR, lc_l1 hR, lc_k2 hR, lc_l2 hR, lc_k3 hR, lc_l3 hR, lc_k4 hR, lc_l4 hR, lz_R hR hz', lz_k hR hz', lz_l hR hz', lz_0 hR hz', lz_1 hR hz', lz_2 hR hz', lz_3 hR hz', lz_4 hR hz', lz_h hR hz', ib04, ib14, ib24, ib34, ib05, ib15, ib25, ib35, ib45, zn_0, zn_1, zn_2, zn_3, zn_4, c, i1n0, e0, e5, e6, az, iz, zz, i1]
    exact ih
theorem s_agr2 (x : FX g T U S A J G) (hL : LLn g B l D nz ns q sa tv pg m (S 28) (fun j => A (28 + j)) p) : ∀ k s, s + k = ns → Ev (d + 14) 141 164 [some (.ref 0), some (.ref l), some (.int 1), some (.int (nI s))] [] g K = Ev (d + 14) 141 242 [some (.ref 0), some (.ref l), some (.int 1), some (.int 0)] [] g K
  | 0, s, hz => by
    have hR := hL.1
    have n20 := hL.2.2.2.1.1.2.1
    have c : (nI ns ≤ nI s) = True := eq_true (by rw [show s = ns by omega]; exact Int32.le_refl _)
    rw [i141_164]
    simp only [i141_165, i141_166, i141_169, i141_170, i141_173, i141_174, i141_177, i141_178, i141_179, i141_182, i141_183, i141_186, i141_187, i141_188, i141_191, i141_194, i141_195, i141_196, i141_199, i141_200, i141_203, i141_204, i141_205, i141_208, i141_211, i141_212, i141_213, i141_216, i141_217, i141_220, i141_221, i141_222, i141_225, i141_228, i141_229, i141_232, i141_233, i141_234, i141_237, i141_240, i141_241, nl_i, nl_r, nl_0, nl_j, nb0, nb1, nbI, orv_s, konN_v, konN_n, konN_e, true_and, and_true, and_self, if_true, if_false, ite_true, ite_false, isR_ref, true_or, or_true, isR_null, rg10, rg11, rg12, rg13, rg14, rg15, rg16, rh13, rh14, rh15, rh16, bI_T, bI_F, bI_Fb, i1z, Bool.false_eq_true, lc_k hR, lc_f0 hR, lc_f1 hR, lc_f2 hR, lc_f4 hR, lc_f5 hR, lc_f6 hR, lc_f7 hR, lc_f8 hR, lc_f9 hR, lc_k0 hR, lc_l0 hR, lc_k1 hR, lc_l1 hR, lc_k2 hR, lc_l2 hR, lc_k3 hR, lc_l3 hR, lc_k4 hR, lc_l4 hR, c]
  | k + 1, s, hz => by
    have hR := hL.1
    have hI := hL.2.2.2.1
    have n20 := hI.1.2.1
    have hs' : s < ns := by omega
    have ih := s_agr2 x hL k (s + 1) (by omega)
    have c : (nI ns ≤ nI s) = False := eq_false (fun y => by
      have := (nI_leI (a := ns) (b := s) (by omega) (by omega)).mp y
      omega)
    have hq : 0 ≤ nI s ∧ nI s < S 28 2 := by
      rw [hI.1.1]
      exact ⟨nI_pos' (by omega), by rw [lt_nI (by omega) (by omega)]; exact hs'⟩
    have i20 : inb (nI s) 20 = True := inbT (by omega) (by omega)
    have zz : zn (nI s) = s := zn_nI (by omega)
    have e4 := fun d K => c_thickness (d := d) (h := g) (T := T) (U := U) (S := S) (A := A) (J := J) (G := G) (K := K) hq i20
    have e5 := fun d K => c_temperature (d := d) (h := g) (T := T) (U := U) (S := S) (A := A) (J := J) (G := G) (K := K) hq i20
    have e6 := fun d K => c_state (d := d) (h := g) (T := T) (U := U) (S := S) (A := A) (J := J) (G := G) (K := K) hq i20
    simp only [← x.1, zz] at e4 e5 e6
    have is : inb (nI s) ns = True := inbT hs' (by omega)
    have i1 : nI s + 1 = nI (s + 1) := nI_add s 1
    rw [i141_164]
    simp only [i141_165, i141_166, i141_169, i141_170, i141_173, i141_174, i141_177, i141_178, i141_179, i141_182, i141_183, i141_186, i141_187, i141_188, i141_191, i141_194, i141_195, i141_196, i141_199, i141_200, i141_203, i141_204, i141_205, i141_208, i141_211, i141_212, i141_213, i141_216, i141_217, i141_220, i141_221, i141_222, i141_225, i141_228, i141_229, i141_232, i141_233, i141_234, i141_237, i141_240, i141_241, nl_i, nl_r, nl_0, nl_j, nb0, nb1, nbI, orv_s, konN_v, konN_n, konN_e, true_and, and_true, and_self, if_true, if_false, ite_true, ite_false, isR_ref, true_or, or_true, isR_null, rg10, rg11, rg12, rg13, rg14, rg15, rg16, rh13, rh14, rh15, rh16, bI_T, bI_F, bI_Fb, i1z, Bool.false_eq_true, lc_k hR, lc_f0 hR, lc_f1 hR, lc_f2 hR, lc_f4 hR, lc_f5 hR, lc_f6 hR, lc_f7 hR, lc_f8 hR, lc_f9 hR, lc_k0 hR, lc_l0 hR, lc_k1 hR, lc_l1 hR, lc_k2 hR, lc_l2 hR, lc_k3 hR, lc_l3 hR, lc_k4 hR, lc_l4 hR, ls_R hR hs', ls_k hR hs', ls_0 hR hs', ls_1 hR hs', ls_2 hR hs', ls_3 hR hs', c, i1n0, e4, e5, e6, is, zz, i1]
    exact ih
theorem s_agr3 (x : FX g T U S A J G) (hL : LLn g B l D nz ns q sa tv pg m (S 28) (fun j => A (28 + j)) p) : ∀ k s, s + k = 6 → Ev (d + 14) 141 242 [some (.ref 0), some (.ref l), some (.int 1), some (.int (nI s))] [] g K = Ev (d + 14) 141 277 [some (.ref 0), some (.ref l), some (.int 1), some (.int 6)] [] g K
  | 0, s, hz => by
    have e6 : nI s = 6 := by rw [show s = 6 by omega]; rfl
    rw [i141_242, e6]
    simp only [i141_243, i141_245, i141_248, i141_249, i141_252, i141_253, i141_254, i141_257, i141_258, i141_259, i141_262, i141_265, i141_266, i141_269, i141_270, i141_271, i141_274, nl_i, nl_r, nl_0, nl_j, nb0, nb1, nbI, orv_s, konN_v, konN_n, konN_e, true_and, and_true, and_self, if_true, if_false, ite_true, ite_false, isR_ref, true_or, or_true, isR_null, rg10, rg11, rg12, rg13, rg14, rg15, rg16, rh13, rh14, rh15, rh16, bI_T, bI_F, bI_Fb, i1z, Bool.false_eq_true, show ((6 : Int32) ≤ 6) = True from eq_true (by decide)]
  | k + 1, s, hz => by
    have hR := hL.1
    have hI := hL.2.2.2.1
    have n20 := hI.1.2.1
    have s6 : s < 6 := by omega
    have ih := s_agr3 x hL k (s + 1) (by omega)
    have c : ((6 : Int32) ≤ nI s) = False := eq_false (fun y => by
      have := (nI_leI (a := 6) (b := s) (by omega) (by omega)).mp y
      omega)
    have hq : 0 ≤ nI s ∧ nI s ≤ 5 := ⟨nI_pos' (by omega), (nI_leI (a := s) (b := 5) (by omega) (by omega)).mpr (by omega)⟩
    have zf : zn (S 28 2) = ns := by rw [hI.1.1]; exact zn_nI (by omega)
    have e := fun d K => c_count (d := d) (h := g) (T := T) (U := U) (S := S) (A := A) (J := J) (G := G) (K := K) hq (by rw [zf]; exact n20)
    simp only [← x.1, zf] at e
    have lc := fun d K => s_lcount (d := d) (x := nI s) (K := K) hR n20
    have i1 : nI s + 1 = nI (s + 1) := nI_add s 1
    rw [i141_242]
    simp only [i141_243, i141_245, i141_248, i141_249, i141_252, i141_253, i141_254, i141_257, i141_258, i141_259, i141_262, i141_265, i141_266, i141_269, i141_270, i141_271, i141_274, nl_i, nl_r, nl_0, nl_j, nb0, nb1, nbI, orv_s, konN_v, konN_n, konN_e, true_and, and_true, and_self, if_true, if_false, ite_true, ite_false, isR_ref, true_or, or_true, isR_null, rg10, rg11, rg12, rg13, rg14, rg15, rg16, rh13, rh14, rh15, rh16, bI_T, bI_F, bI_Fb, i1z, Bool.false_eq_true, lc_k hR, lc_f0 hR, lc_f1 hR, lc_f2 hR, lc_f4 hR, lc_f5 hR, lc_f6 hR, lc_f7 hR, lc_f8 hR, lc_f9 hR, lc_k0 hR, lc_l0 hR, lc_k1 hR, lc_l1 hR, lc_k2 hR, lc_l2 hR, lc_k3 hR, lc_l3 hR, lc_k4 hR, lc_l4 hR, c, i1n0, e, lc, i1]
    exact ih
theorem lgc_s {y : Int64} : lg_cmp y y = 0 := by
  unfold lg_cmp
  simp
theorem Sx.alH {W : Nat → Prop} : Sx W 6 g (alH g) := ⟨Sm.alH, by show hN g + 1 ≤ _; omega, by show hS g + 6 ≤ _; omega⟩
/-- the law's line and the class's agree: two throws, no more -/
theorem s_agrees (x : FX g T U S A J G) (hs : SUp g T (G 28) t q sa m pg) (hL : LLn g B l D nz ns q sa tv pg m (S 28) (fun j => A (28 + j)) p) : EvM (d + 14) 141 [.ref 0, .ref l] g K = K (.inl (some (.int 1))) (alH (alH g)) := by
  have hR := hL.1
  have hI := hL.2.2.2.1
  have hP := hL.2.2.2.2.1
  have n6 := hL.2.2.2.2.2.1.2
  have n20 := hI.1.2.1
  have q0 := hL.2.2.2.2.2.1.1
  have zf : zn (S 28 2) = ns := by rw [hI.1.1]; exact zn_nI (by omega)
  have k0 : hk g 0 = 6 := by rw [x.1]; exact k_0
  have e1 := fun d K => c_zc (d := d) (h := g) (U := U) (S := S) (A := A) (J := J) (K := K) hs
  have e2 := fun d K => c_sc (d := d) (h := g) (T := T) (U := U) (S := S) (A := A) (J := J) (G := G) (K := K)
  have e3 := fun d K => c_clk (d := d) (h := g) (T := T) (U := U) (S := S) (A := A) (J := J) (G := G) (K := K)
  have e4 := fun d K => c_qd (d := d) (h := g) (T := T) (U := U) (S := S) (A := A) (J := J) (G := G) (K := K)
  have e5 := fun d K => c_ql (d := d) (h := g) (T := T) (U := U) (S := S) (A := A) (J := J) (G := G) (K := K)
  have e6 := fun d K => c_cs (d := d) (h := g) (U := U) (S := S) (A := A) (J := J) (K := K) hs (by rw [zf]; exact n20)
  simp only [← x.1, q0, hI.1.1] at e1 e2 e3 e4 e5 e6
  have aq := fun d K => s_atq (d := d) (K := K) hR hI hP
  have sm := fun d K => s_sum (d := d) (K := K) hR hI hP n6 q0
  have l1 := fun d K => s_agr1 (d := d) (K := K) x hs hL nz 0 (by omega)
  have l2 := fun d K => s_agr2 (d := d) (K := K) x hL ns 0 (by omega)
  have l3 := fun d K => s_agr3 (d := d) (K := K) x hL 6 0 (by omega)
  rw [nI_0] at l1 l2 l3
  have nx : ¬ (0 ≤ nI nz ∧ nI nz < q 0) := fun z => by
    have := z.2
    rw [q0, lt_nI (by omega) (by omega)] at this
    omega
  have ny : ¬ (0 ≤ nI ns ∧ nI ns < S 28 2) := fun z => by
    have := z.2
    rw [hI.1.1, lt_nI (by omega) (by omega)] at this
    omega
  have x1 := fun d K => c_zoneX (d := d) (h := g) (U := U) (S := S) (A := A) (J := J) (K := K) (y := 0) hs nx
  have x2 := fun d K => c_stateX (d := d) (h := alH g) (T := T) (U := U) (S := S) (A := A) (J := J) (G := G) (K := K) ny
  have xh := x.hole
  simp only [← x.1, x.ho] at x1
  have x2 : ∀ d K, EvM (d + 12) 127 [.ref 0, .int (nI ns)] (alH g) K = K (.inl (some (.int (-2000000097)))) (alH (alH g)) := fun d K => by
    have y := x2 d K
    rw [xh.ho, ← xh.1] at y
    exact y
  have hL' := hL.no (c := 6) Sx.alH
  have hR' := hL'.1
  have hl := hR.1.2.2.2.2.1
  have tail : ∀ K, Ev (d + 14) 141 88 [some (.ref 0), some (.ref l), some (.int 1), none] [] g K = K (.inl (some (.int 1))) (alH (alH g)) := fun K => by
    simp only [i141_88, i141_89, nl_i, nl_r, nl_0, nl_j, nb0, nb1, nbI, orv_s, konN_v, konN_n, konN_e, true_and, and_true, and_self, if_true, if_false, ite_true, ite_false, isR_ref, true_or, or_true, isR_null, rg10, rg11, rg12, rg13, rg14, rg15, rg16, rh13, rh14, rh15, rh16, bI_T, bI_F, bI_Fb, i1z, Bool.false_eq_true, l1, l2, l3]
    simp only [i141_277, i141_278, i141_281, i141_282, i141_283, i141_286, i141_287, i141_288, i141_291, i141_293, i141_296, i141_297, i141_298, i141_301, i141_302, i141_305, i141_307, i141_310, i141_311, i141_314, i141_315, nl_i, nl_r, nl_0, nl_j, nb0, nb1, nbI, orv_s, konN_v, konN_n, konN_e, true_and, and_true, and_self, if_true, if_false, ite_true, ite_false, isR_ref, true_or, or_true, isR_null, rg10, rg11, rg12, rg13, rg14, rg15, rg16, rh13, rh14, rh15, rh16, bI_T, bI_F, bI_Fb, i1z, Bool.false_eq_true, lc_k hR, lc_f0 hR, lc_f1 hR, lc_f2 hR, lc_f4 hR, lc_f5 hR, lc_f6 hR, lc_f7 hR, lc_f8 hR, lc_f9 hR, lc_k0 hR, lc_l0 hR, lc_k1 hR, lc_l1 hR, lc_k2 hR, lc_l2 hR, lc_k3 hR, lc_l3 hR, lc_k4 hR, lc_l4 hR, lc_k hR', lc_f0 hR', lc_f1 hR', lc_f2 hR', lc_f4 hR', lc_f5 hR', lc_f6 hR', lc_f7 hR', lc_f8 hR', lc_f9 hR', lc_k0 hR', lc_l0 hR', lc_k1 hR', lc_l1 hR', lc_k2 hR', lc_l2 hR', lc_k3 hR', lc_l3 hR', lc_k4 hR', lc_l4 hR', x1, x2, i1n0]
  rcases hI.2.1 with ⟨h3, h4⟩ | ⟨s, hs', h3, h4, -⟩
  · simp only [i141_0, i141_1, i141_4, i141_5, i141_8, i141_9, i141_12, i141_13, i141_16, i141_17, i141_20, i141_21, i141_24, i141_25, i141_28, i141_29, i141_32, i141_35, i141_36, i141_39, i141_40, i141_41, i141_44, i141_47, i141_48, i141_51, i141_52, i141_53, i141_56, i141_59, i141_60, i141_63, i141_64, i141_67, i141_70, i141_71, i141_74, i141_75, i141_78, i141_79, i141_82, i141_83, i141_86, i141_87, in141, nl_i, nl_r, nl_0, nl_j, nb0, nb1, nbI, orv_s, konN_v, konN_n, konN_e, true_and, and_true, and_self, if_true, if_false, ite_true, ite_false, isR_ref, true_or, or_true, isR_null, rg10, rg11, rg12, rg13, rg14, rg15, rg16, rh13, rh14, rh15, rh16, bI_T, bI_F, bI_Fb, i1z, Bool.false_eq_true, lc_k hR, lc_f0 hR, lc_f1 hR, lc_f2 hR, lc_f4 hR, lc_f5 hR, lc_f6 hR, lc_f7 hR, lc_f8 hR, lc_f9 hR, lc_k0 hR, lc_l0 hR, lc_k1 hR, lc_l1 hR, lc_k2 hR, lc_l2 hR, lc_k3 hR, lc_l3 hR, lc_k4 hR, lc_l4 hR, k0, e1, e2, e3, e4, e5, e6, aq, sm, lgc_s, i1n0, h3, h4, show ((0 : Int32) ≤ -1) = False from eq_false (by decide), tail]
  · obtain ⟨y, y1, y2⟩ := hl
    have hy : y = S 28 4 := by
      rcases y2 with y2 | y2
      · rw [h3] at y2
        exact absurd y2 (nI_nm1 (by omega))
      · exact y2
    subst hy
    simp only [i141_0, i141_1, i141_4, i141_5, i141_8, i141_9, i141_12, i141_13, i141_16, i141_17, i141_20, i141_21, i141_24, i141_25, i141_28, i141_29, i141_32, i141_35, i141_36, i141_39, i141_40, i141_41, i141_44, i141_47, i141_48, i141_51, i141_52, i141_53, i141_56, i141_59, i141_60, i141_63, i141_64, i141_67, i141_70, i141_71, i141_74, i141_75, i141_78, i141_79, i141_82, i141_83, i141_86, i141_87, in141, nl_i, nl_r, nl_0, nl_j, nb0, nb1, nbI, orv_s, konN_v, konN_n, konN_e, true_and, and_true, and_self, if_true, if_false, ite_true, ite_false, isR_ref, true_or, or_true, isR_null, rg10, rg11, rg12, rg13, rg14, rg15, rg16, rh13, rh14, rh15, rh16, bI_T, bI_F, bI_Fb, i1z, Bool.false_eq_true, lc_k hR, lc_f0 hR, lc_f1 hR, lc_f2 hR, lc_f4 hR, lc_f5 hR, lc_f6 hR, lc_f7 hR, lc_f8 hR, lc_f9 hR, lc_k0 hR, lc_l0 hR, lc_k1 hR, lc_l1 hR, lc_k2 hR, lc_l2 hR, lc_k3 hR, lc_l3 hR, lc_k4 hR, lc_l4 hR, k0, e1, e2, e3, e4, e5, e6, aq, sm, lgc_s, i1n0, h3, y1, show ((0 : Int32) ≤ nI s) = True from eq_true (nI_pos' (by omega)), tail]
end AGR
