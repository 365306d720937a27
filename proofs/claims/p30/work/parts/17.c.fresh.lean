/-! THE LAW'S START: what a fresh object answers -/
section BEH
variable {iv : Nat} {g : AH} {U S A : Nat → Nat → Int32} {J : Nat → Nat → Int64} {G : Nat → Nat} {T : Nat → Bool} {sa : Nat → Nat → Int32} {q pg : Nat → Int32} {t m : Nat} {l6 l7 l8 l9 l10 l11 l12 l13 l14 l15 l16 l17 l18 l19 l20 l21 l22 l23 l24 : Option Value}
theorem hole_n {k : Nat} : ∀ {g : AH}, FX g T U S A J G → SUp g T (G 28) t q sa m pg → (∀ j, j ≤ 7 → G 28 + j < hN g) → (∀ j, j ≤ 2 → t + j < hN g) → FX (alH g) T U S A J G ∧ SUp (alH g) T (G 28) t q sa m pg ∧ (∀ j, j ≤ 7 → G 28 + j < hN (alH g)) ∧ ∀ j, j ≤ 2 → t + j < hN (alH g) := fun x hs h1 h2 =>
  ⟨x.hole, hs.keep (W := noW) Sm.alH (fun _ _ => rfl) (fun j hj => ⟨h1 j hj, fun z => z⟩) (fun j hj => ⟨h2 j hj, fun _ z => z⟩), fun j hj => Nat.lt_succ_of_lt (h1 j hj), fun j hj => Nat.lt_succ_of_lt (h2 j hj)⟩
/-- from 45 to 151 -/
theorem seg_c (x : FX g T U S A J G) (hs : SUp g T (G 28) t (fun _ => 0) a0 m pg) (hb1 : ∀ j, j ≤ 7 → G 28 + j < hN g) (hb2 : ∀ j, j ≤ 2 → t + j < hN g) (htu : t = 10 ∧ m = 3 ∧ pg = usual) (h28 : S 28 1 = 0 ∧ S 28 2 = 0 ∧ S 28 3 = -1 ∧ S 28 4 = 0) (hA : ∀ j, 1 ≤ j → j ≤ 10 → A (28 + j) = fun _ => 0) (h50 : S 50 1 = 0 ∧ S 50 2 = 0) (h13 : S 13 8 = -1 ∧ S 13 1 = 0) :
    ∃ (g' : AH) (S' A' : Nat → Nat → Int32) (G' : Nat → Nat), (Sm (CW T) g g' ∧ hN g' ≤ hN g + 40 ∧ hS g' ≤ hS g + 200) ∧ FX g' T U S' A' J G' ∧ (S' 50 1 = 0 ∧ S' 50 2 = 0 ∧ S' 13 1 = 0) ∧ ∀ d Q, Es (d + 30) 142 45 [some scrV, some (.int 1), some (.int (nI iv)), some (.ref 0), some (.ref 140), some (.ref 141), l6, l7, l8, l9, l10, l11, l12, l13, l14, l15, l16, l17, l18, l19, l20, l21, l22, l23, l24] [] g Q = Es (d + 30) 142 151 [some scrV, some (.int 1), some (.int (nI iv)), some (.ref 0), some (.ref 140), some (.ref 141), l6, l7, l8, l9, l10, l11, l12, l13, l14, l15, l16, l17, l18, l19, l20, l21, l22, l23, l24] [] g' Q := by
  obtain ⟨g1, ⟨s1, n1, m1⟩, L1, e1⟩ := ln_fresh (g := g) (f := S 28) h28.1 h28.2.1 h28.2.2.1 h28.2.2.2
  have x1 : FX g1 T U S A J G := x.law s1 (fun _ _ z => z)
  have hs1 : SUp g1 T (G 28) t (fun _ => 0) a0 m pg := hs.keep s1 (fun _ _ => rfl) (fun j hj => ⟨hb1 j hj, fun z => z⟩) (fun j hj => ⟨hb2 j hj, fun _ z => z⟩)
  have le := s1.1
  have L1' : LLn g1 (fun _ => False) (hN g) (DF (hN g)) 0 0 (fun _ => 0) a0 .null pg m (S 28) (fun j => A (28 + j)) (fun _ => 0) := by
    rw [htu.2.1, htu.2.2]
    exact L1.ca (fun j j1 j2 => hA j j1 j2)
  have ag := fun d K => s_agrees (d := d) (K := K) x1 hs1 L1'
  have b1 : ∀ j, j ≤ 7 → G 28 + j < hN g1 := fun j hj => by have := hb1 j hj; omega
  have b2 : ∀ j, j ≤ 2 → t + j < hN g1 := fun j hj => by have := hb2 j hj; omega
  obtain ⟨x2, t2, u2, v2⟩ := hole_n (k := 0) x1 hs1 b1 b2
  obtain ⟨x3, t3, u3, v3⟩ := hole_n (k := 0) x2 t2 u2 v2
  obtain ⟨x4, t4, u4, v4⟩ := hole_n (k := 0) x3 t3 u3 v3
  obtain ⟨x5, t5, u5, v5⟩ := hole_n (k := 0) x4 t4 u4 v4
  obtain ⟨x6, t6, u6, v6⟩ := hole_n (k := 0) x5 t5 u5 v5
  obtain ⟨g3, h3⟩ : ∃ y, y = alH (alH g1) := ⟨_, rfl⟩
  obtain ⟨g4, h4⟩ : ∃ y, y = alH g3 := ⟨_, rfl⟩
  obtain ⟨g5, h5⟩ : ∃ y, y = alH g4 := ⟨_, rfl⟩
  obtain ⟨g6, h6⟩ : ∃ y, y = alH g5 := ⟨_, rfl⟩
  rw [← h3] at ag x3 t3 u3 v3 x4 t4 u4 v4 x5 t5 u5 v5 x6 t6 u6 v6
  rw [← h4] at x4 t4 u4 v4 x5 t5 u5 v5 x6 t6 u6 v6
  rw [← h5] at x5 t5 u5 v5 x6 t6 u6 v6
  rw [← h6] at x6 t6 u6 v6
  have nq : ¬ (0 : Int32) < 0 := by decide
  have ce := fun d K => c_eo (d := d) (h := g3) (T := T) (U := U) (S := S) (A := A) (J := J) (G := G) (K := K)
  have cu := fun d K => c_undoE (d := d) (h := g3) (T := T) (U := U) (S := S) (A := A) (J := J) (G := G) (K := K) (nx := 0) (h50.1.trans nI_0.symm) (by omega) h50.2
  have cr := fun d K => c_runS (d := d) (h := g3) (U := U) (S := S) (A := A) (J := J) (K := K) (x := 1) t3 nq (by decide)
  have ca := fun d K => c_runA (d := d) (h := g4) (T := T) (U := U) (S := S) (A := A) (J := J) (G := G) (K := K) (x := 0) (by decide)
  have cd := fun d K => c_addS (d := d) (h := g5) (U := U) (S := S) (A := A) (J := J) (K := K) (x := 100) (y := 1000) t5 nq (by decide) (by decide) (by decide +kernel)
  have cg := fun d K => c_guardE (d := d) (h := g6) (U := U) (S := S) (A := A) (J := J) (K := K) (x := 4) t6 nq (by decide)
  have cb := fun d K => c_bestE (d := d) (h := g6) (U := U) (S := S) (A := A) (J := J) (K := K) t6 nq
  have cf := fun d K => c_finE (d := d) (h := g6) (U := U) (S := S) (A := A) (J := J) (K := K) t6 h28.2.1
  simp only [← x3.1, h13.1] at ce
  simp only [← x3.1] at cu
  simp only [← x3.1, ← h4, ← x4.1] at cr
  simp only [← x4.1, ← h5, ← x5.1] at ca
  simp only [← x5.1, ← h6, ← x6.1] at cd
  simp only [← x6.1] at cg cb cf
  have c7 := x6.cls (U' := U) (S' := pS S 39 (S 28)) (A' := pA A 39 (fun j => A (28 + j))) (J' := J) (G' := upf G 39 (G 28))
  obtain ⟨g7, h7⟩ : ∃ y, y = MH g6 T U (pS S 39 (S 28)) (pA A 39 (fun j => A (28 + j))) J (upf G 39 (G 28)) := ⟨_, rfl⟩
  have g7N : hN g7 = hN g6 := by rw [h7]; rfl
  have g7S : hS g7 = hS g6 := by rw [h7]; rfl
  have t7 : SUp g7 T (upf G 39 (G 28) 28) t (fun _ => 0) a0 m pg := by
    rw [h7, upf_ne _ _ (by decide)]
    exact t6.mh
  rw [← h7] at cf c7
  have cs := fun d K => c_setCorrS (d := d) (h := g7) (U := U) (S := pS S 39 (S 28)) (A := pA A 39 (fun j => A (28 + j))) (J := J) (G := upf G 39 (G 28)) (K := K) (x := 4) (y := 0) t7 nq (by decide) (by decide)
  simp only [← c7.2.1, c7.2.ho] at cs
  have k7 : ∀ h : AH, FX h T U S A J G → hk h 0 = 6 := fun h y => by rw [y.1]; exact k_0
  have e13 : hN g6 = hN g1 + 5 := by rw [h6, h5, h4, h3]; rfl
  have e14 : hS g6 = hS g1 + 30 := by rw [h6, h5, h4, h3]; rfl
  refine ⟨alH g7, pS S 39 (S 28), pA A 39 (fun j => A (28 + j)), upf G 39 (G 28), ⟨?_, by show hN g7 + 1 ≤ _; omega, by show hS g7 + 6 ≤ _; omega⟩, c7.2.hole, ⟨?_, ?_, ?_⟩, fun d Q => ?_⟩
  · have z6 : Sm (CW T) g1 g6 := by rw [h6, h5, h4, h3]; exact ((((Sm.alH.tr Sm.alH).tr Sm.alH).tr Sm.alH).tr Sm.alH)
    exact (((s1.mo (fun _ _ z => z.elim)).tr z6).tr c7.1).tr Sm.alH
  · rw [pS_ne (by decide)]; exact h50.1
  · rw [pS_ne (by decide)]; exact h50.2
  · rw [pS_ne (by decide)]; exact h13.2
  · have kl : hk (alO g 7 10 (dfl 6)) (hN g) = 7 := alO_k
    simp only [e142_45, e142_46, e142_49, e142_50, e142_53, e142_56, e142_59, e142_60, e142_63, e142_64, e142_67, e142_68, e142_71, e142_72, e142_75, e142_76, e142_77, e142_80, e142_82, e142_85, e142_86, e142_87, e142_90, e142_92, e142_95, e142_96, e142_98, e142_101, e142_104, e142_106, e142_109, e142_110, e142_111, e142_114, e142_115, e142_118, e142_119, e142_122, e142_123, e142_126, e142_127, e142_128, e142_131, e142_134, e142_135, e142_136, e142_137, e142_140, e142_142, e142_145, e142_146, e142_149, e142_150, nl_i, nl_r, nl_0, nl_j, nb0, nb1, nbI, orv_s, konN_v, konN_n, konN_e, true_and, and_true, and_self, if_true, if_false, ite_true, ite_false, isR_ref, true_or, or_true, isR_null, rg10, rg11, rg12, rg13, rg14, rg15, rg16, rh13, rh14, rh15, rh16, bI_T, bI_F, bI_Fb, i1z, Bool.false_eq_true, ksN_v, ksN_n, nl_scr, kl, e1, ag, i1n0, k7 g3 x3, k7 g4 x4, k7 g5 x5, k7 g6 x6, ce, cu, cr, ca, cd, cg, cb, cf, cs]
end BEH
