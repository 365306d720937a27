/-! RANDOM LINE: the bands -/
section BND
variable {d u r n l q1 q2 k : Nat} {g : AH} {T : Nat → Bool} {U S A : Nat → Nat → Int32} {J : Nat → Nat → Int64} {G : Nat → Nat} {K : AO → AH → Prop} {b : List Nat} {zs : List Z5} {l6 l7 l8 : Option Value} {sd : Int32}
theorem wR_wF' {i k j : Nat} {v : Value} {f : Nat → Option Nat} : wR (wF g i k v) j f = wF (wR g j f) i k v := rfl
theorem R_wF' {i k j : Nat} {v : Value} : hR (wF g i k v) j = hR g j := rfl
theorem R_wA' {i j : Nat} {f : Nat → Int32} : hR (wA g i f) j = hR g j := rfl
theorem A_wR' {i j : Nat} {f : Nat → Option Nat} : hA (wR g i f) j = hA g j := rfl
theorem F_wR' {i j k : Nat} {f : Nat → Option Nat} : hF (wR g i f) j k = hF g j k := rfl
theorem k_wR' {i j : Nat} {f : Nat → Option Nat} : hk (wR g i f) j = hk g j := rfl
theorem l_wR' {i j : Nat} {f : Nat → Option Nat} : hl (wR g i f) j = hl g j := rfl
theorem N_wR' {i : Nat} {f : Nat → Option Nat} : hN (wR g i f) = hN g := rfl
theorem N_wA' {i : Nat} {f : Nat → Int32} : hN (wA g i f) = hN g := rfl
theorem R_alA' {i kd n : Nat} (h : ¬ i = hN g) : hR (alA g kd n) i = hR g i := if_neg h
theorem A_alA' {i kd n : Nat} (h : ¬ i = hN g) : hA (alA g kd n) i = hA g i := if_neg h
def row2 (v : B3) : Nat → Int32 := upd (upd (fun _ => 0) 0 (nI v.2.1)) 1 (nI v.2.2)
def row3 (v : B3) : Nat → Int32 := upd (upd (upd (fun _ => 0) 0 (nI v.1)) 1 (nI v.2.1)) 2 (nI v.2.2)
theorem vu_eq {f : Nat → Option Nat} {k : Nat} {y : Option Nat} : va_up f k y k = y := if_pos rfl
theorem s_rb (h1 : hk g r = 9) (h2 : r < l) (h3 : hF g r 0 = .int sd) (hl7 : hk g l = 7) (hl8 : hF g l 8 = .ref (l + 4)) (hb4 : hk g (l + 4) = 14 ∧ hl g (l + 4) = 20) (hN6 : l + 6 ≤ hN g) (hk8 : k < 8) : ∃ v : B3, ∃ s x6 x7 g', bdK v ∧ g' = wF (wA (alA (wR (wA (alA g 10 2) (hN g) (row2 v)) (l + 4) (va_up (hR g (l + 4)) v.1 (some (hN g)))) 10 3) (hN g + 1) (row3 v)) r 0 (.int s) ∧ ∀ d K, Ev (d + 1) 140 250 [some (.ref 0), some (.ref u), some (.ref r), some (.ref l), some (.int (nI n)), some (.int (nI (k + 1))), l6, l7, l8] [] g K = Ev (d + 1) 140 341 [some (.ref 0), some (.ref u), some (.ref r), some (.ref l), some (.int (nI n)), some (.int (nI (k + 1))), some (.int x6), some (.int x7), l8] [.ref (hN g + 1), litV 2, .ref u, .ref 0] g' K := by
  obtain ⟨k1, e1⟩ : ∃ k, k = rv sd % 18 := ⟨_, rfl⟩
  obtain ⟨k2, e2⟩ : ∃ k, k = rv (sdN sd) % 500 := ⟨_, rfl⟩
  obtain ⟨k3, e3⟩ : ∃ k, k = rv (sdN (sdN sd)) % 100 := ⟨_, rfl⟩
  have k1l : k1 < 18 := by rw [e1]; exact Nat.mod_lt _ (by omega)
  have k2l : k2 < 500 := by rw [e2]; exact Nat.mod_lt _ (by omega)
  have k3l : k3 < 100 := by rw [e3]; exact Nat.mod_lt _ (by omega)
  refine ⟨(2 + k1, 300 + k2, 300 + k2 + k3), sdN (sdN (sdN sd)), nI (2 + k1), nI (300 + k2), _, ⟨⟨by show 2 ≤ 2 + k1; omega, by show 2 + k1 ≤ 19; omega⟩, ⟨by show 20 ≤ 300 + k2; omega, by show 300 + k2 ≤ 900; omega⟩, ⟨by show 300 + k2 ≤ 300 + k2 + k3; omega, by show 300 + k2 + k3 ≤ 900; omega⟩⟩, rfl, fun d K => ?_⟩
  have b18 := fun (h : AH) d K => s_belv 18 h d K (by omega) (by omega) r
  have b500 := fun (h : AH) d K => s_belv 500 h d K (by omega) (by omega) r
  have b100 := fun (h : AH) d K => s_belv 100 h d K (by omega) (by omega) r
  have j18 : (18 : Int32) = nI 18 := rfl
  have j500 : (500 : Int32) = nI 500 := rfl
  have j100 : (100 : Int32) = nI 100 := rfl
  have j300 : (300 : Int32) = nI 300 := rfl
  have j1 : (1 : Int32) = nI 1 := rfl
  have j2 : (2 : Int32) = nI 2 := rfl
  have j3 : (3 : Int32) = nI 3 := rfl
  have j0 : (0 : Int32) = nI 0 := rfl
  have kp : (nI (k + 1) ≤ nI 0) = False := eq_false (fun y => by
    have := (nI_leI (a := k + 1) (b := 0) (by omega) (by omega)).mp y
    omega)
  have v2 : (¬ (nI 2 < nI 0 ∨ 60000000 < 2)) = True := v0N (by omega)
  have v3 : (¬ (nI 3 < nI 0 ∨ 60000000 < 3)) = True := v0N (by omega)
  have zz : ∀ k : Nat, k < 65536 → zn (nI k) = k := fun k h => zn_nI (by omega)
  have z0 := zz 0 (by omega)
  have z1 := zz 1 (by omega)
  have z2 := zz 2 (by omega)
  have z3 := zz 3 (by omega)
  have zt := zz (2 + k1) (by omega)
  have i20 : inb (nI (2 + k1)) 20 = True := inbT (by omega) (by omega)
  have i02 : inb (nI 0) 2 = True := inbT (by omega) (by omega)
  have i12 : inb (nI 1) 2 = True := inbT (by omega) (by omega)
  have i03 : inb (nI 0) 3 = True := inbT (by omega) (by omega)
  have i13 : inb (nI 1) 3 = True := inbT (by omega) (by omega)
  have i23 : inb (nI 2) 3 = True := inbT (by omega) (by omega)
  have rN : ¬ r = hN g := by omega
  have lN : ¬ l = hN g := by omega
  have bN : ¬ l + 4 = hN g := by omega
  have rl : ¬ l = r := by omega
  have c14 : (13 ≤ 14 ∧ 14 ≤ 16) = True := eq_true (by decide)
  obtain ⟨g1, hg1⟩ : ∃ y, y = wR (wA (alA g 10 2) (hN g) (row2 (2 + k1, 300 + k2, 300 + k2 + k3))) (l + 4) (va_up (hR g (l + 4)) (2 + k1) (some (hN g))) := ⟨_, rfl⟩
  have n1 : hN g1 = hN g + 1 := by rw [hg1]; rfl
  have kr1 : hk g1 r = 9 := by rw [hg1, k_wR', k_wA, k_alA' rN]; exact h1
  have kl1 : hk g1 l = 7 := by rw [hg1, k_wR', k_wA, k_alA' lN]; exact hl7
  have kb1 : hk g1 (l + 4) = 14 := by rw [hg1, k_wR', k_wA, k_alA' bN]; exact hb4.1
  have lb1 : hl g1 (l + 4) = 20 := by rw [hg1, l_wR', l_wA, l_alA' bN]; exact hb4.2
  have Fl1 : hF g1 l 8 = .ref (l + 4) := by rw [hg1, F_wR', F_wA', F_alA']; exact hl8
  have ky1 : hk g1 (hN g) = 10 := by rw [hg1, k_wR', k_wA]; exact alA_k
  have ly1 : hl g1 (hN g) = 2 := by rw [hg1, l_wR', l_wA]; exact alA_l
  have ay1 : hA g1 (hN g) = row2 (2 + k1, 300 + k2, 300 + k2 + k3) := by rw [hg1, A_wR', wA_eq]
  have ry1 : hR g1 (l + 4) (2 + k1) = some (hN g) := by rw [hg1, wR_eq]; exact vu_eq
  have aK : hk (alA g 10 2) (hN g) = 10 := alA_k
  have aL : hl (alA g 10 2) (hN g) = 2 := alA_l
  have aA : hA (alA g 10 2) (hN g) = fun _ => 0 := alA_A (kd := 10) (n := 2)
  have cK : hk (alA g1 10 3) (hN g + 1) = 10 := by rw [← n1]; exact alA_k
  have cL : hl (alA g1 10 3) (hN g + 1) = 3 := by rw [← n1]; exact alA_l
  have cA : hA (alA g1 10 3) (hN g + 1) = fun _ => 0 := by rw [← n1]; exact alA_A (kd := 10) (n := 3)
  have lN2 : ¬ l = hN g1 := by omega
  have bN2 : ¬ l + 4 = hN g1 := by omega
  have yN2 : ¬ hN g = hN g1 := by omega
  have y1N : ¬ hN g = hN g + 1 := by omega
  have r20 : row2 (2 + k1, 300 + k2, 300 + k2 + k3) 0 = nI (300 + k2) := rfl
  have r21 : row2 (2 + k1, 300 + k2, 300 + k2 + k3) 1 = nI (300 + k2 + k3) := rfl
  have pre : ∀ d K, Ev (d + 1) 140 250 [some (.ref 0), some (.ref u), some (.ref r), some (.ref l), some (.int (nI n)), some (.int (nI (k + 1))), l6, l7, l8] [] g K = Ev (d + 1) 140 305 [some (.ref 0), some (.ref u), some (.ref r), some (.ref l), some (.int (nI n)), some (.int (nI (k + 1))), some (.int (nI (2 + k1))), some (.int (nI (300 + k2))), l8] [] (wF g1 r 0 (.int (sdN (sdN (sdN sd))))) K := fun d K => by
    rw [i140_250]
    simp only [i140_252, i140_255, i140_256, i140_257, i140_259, i140_262, i140_263, i140_265, i140_268, i140_269, i140_272, i140_275, i140_276, i140_278, i140_279, i140_282, i140_284, i140_285, i140_287, i140_288, i140_289, i140_291, i140_292, i140_293, i140_294, i140_296, i140_297, i140_299, i140_302, i140_303, i140_304, nl_i, nl_r, nl_0, nl_j, nb0, nb1, nbI, orv_s, konN_v, konN_n, konN_e, true_and, and_true, and_self, if_true, if_false, ite_true, ite_false, isR_ref, true_or, or_true, isR_null, rg10, rg11, rg12, rg13, rg14, rg15, rg16, rh13, rh14, rh15, rh16, bI_T, bI_F, bI_Fb, i1z, Bool.false_eq_true, j18, j500, j100, j300, j1, j2, j0, kp, h1, h3, viN_i, b18, b500, b100, k_wF, wF_eq, ← e1, ← e2, ← e3, nI_add, v2, z2, alA_wF', wA_wF', wF_wF', k_wA, l_wA, k_alA' rN, k_alA' lN, k_alA' bN, l_alA' bN, N_wF', aK, aL, aA, A_wF', l_wF, i02, i12, z0, z1, wA_eq, wA_wA, F_alA', F_wA', hl7, hl8, wF_ne rl, hb4.1, hb4.2, i20, zt, R_wF', R_wA', R_alA' bN, wR_wF']
    rw [hg1]
    rfl
  rw [pre]
  simp only [i140_305, i140_306, i140_307, i140_309, i140_310, i140_312, i140_313, i140_314, i140_316, i140_317, i140_318, i140_319, i140_320, i140_323, i140_325, i140_326, i140_327, i140_328, i140_329, i140_330, i140_331, i140_332, i140_335, i140_337, i140_338, i140_339, i140_340, nl_i, nl_r, nl_0, nl_j, nb0, nb1, nbI, orv_s, konN_v, konN_n, konN_e, true_and, and_true, and_self, if_true, if_false, ite_true, ite_false, isR_ref, true_or, or_true, isR_null, rg10, rg11, rg12, rg13, rg14, rg15, rg16, rh13, rh14, rh15, rh16, bI_T, bI_F, bI_Fb, i1z, Bool.false_eq_true, j1, j2, j3, j0, v3, z3, N_wF', n1, alA_wF', wA_wF', k_wF, l_wF, k_wA, l_wA, cK, cL, cA, A_wF', i03, i13, i23, z0, z1, z2, wA_eq, wA_wA, wF_ne rl, F_wA', F_alA', Fl1, kl1, k_alA' lN2, k_alA' bN2, l_alA' bN2, k_alA' yN2, l_alA' yN2, kb1, lb1, c14, i20, zt, R_wF', R_wA', R_alA' bN2, ry1, ky1, ly1, i02, i12, wA_ne y1N, A_alA' yN2, ay1, r20, r21]
  rw [← hg1]
  rfl
end BND
