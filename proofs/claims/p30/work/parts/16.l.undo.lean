/-! THE LAW'S LOOP: what is undone, and the end -/
section CSX
variable {T : Nat → Bool} {J : Nat → Nat → Int64} {B W : Nat → Prop} {l nz r bf s t m lp : Nat} {q : Nat → Int32} {sa : Nat → Nat → Int32} {pg : Nat → Int32} {tv : Value} {g g' : AH} {U U' S S' A A' : Nat → Nat → Int32} {G G' : Nat → Nat} {D D' : Nat → Nat → Nat} {ns ns' nx kp nx' kp' ck ck' i j : Nat} {p p' f f' : Nat → Int32} {a a' : Nat → Nat → Int32} {l2 l4 l8 l9 l13 l14 l15 l16 l17 l18 l19 l20 l21 l22 l23 l24 : Option Value} {w : ULt}
variable {l10 l11 l12 : Option Value} {done n k : Nat} {iv : Int32}
/-- class and setup, and the law's kept lines from the k-th on -/
def UB (T : Nat → Bool) (J : Nat → Nat → Int64) (B : Nat → Prop) (nz bf s t m : Nat) (q : Nat → Int32) (sa : Nat → Nat → Int32) (pg : Nat → Int32) (tv : Value) (g : AH) (U S A : Nat → Nat → Int32) (G : Nat → Nat) (nx kp done k : Nat) : Prop :=
  (FX g T U S A J G ∧ SUp g T s t q sa m pg ∧ G 28 = s ∧ (∀ j, j ≤ 7 → s + j < hN g) ∧ (∀ j, j ≤ 2 → t + j < hN g) ∧ q 0 = nI nz ∧ 0 < nz ∧ nz ≤ 6) ∧
  (S 50 1 = nI nx ∧ nx < 8 ∧ S 50 2 = nI kp ∧ kp ≤ 8 ∧ S 13 1 = 0 ∧ 0 ≤ S 28 2) ∧
  ((hk g bf = 16 ∧ hl g bf = 9) ∧ bf < hN g ∧ ¬ CW T bf) ∧ (∀ i, B i → ¬ CW T i) ∧
  ∀ j, k ≤ j → j < 8 → j < done → ∃ (v : Nat) (Dk : Nat → Nat → Nat) (nk : Nat) (pk : Nat → Int32), hR g bf j = some v ∧ LLn g B v Dk nz nk q sa tv pg m (S (rw8 nx (j - k))) (fun i => A (rw8 nx (j - k) + i)) pk ∧ (∀ i, Ad v Dk nz nk i → ¬ CW T i) ∧ G (rw8 nx (j - k)) = s
theorem UB.hole (x : UB T J B nz bf s t m q sa pg tv g U S A G nx kp done k) : UB T J B nz bf s t m q sa pg tv (alH g) U S A G nx kp done k := by
  obtain ⟨⟨x1, x2, x3, x4, x5, x6⟩, y, ⟨z1, z2, z3⟩, zB, w⟩ := x
  have sx : Sm noW g (alH g) := Sm.alH
  have le := sx.1
  refine ⟨⟨x1.hole, x2.keep sx (fun _ _ => rfl) (fun j hj => ⟨x4 j hj, fun z => z⟩) (fun j hj => ⟨x5 j hj, fun _ z => z⟩), x3, fun j hj => by have := x4 j hj; omega, fun j hj => by have := x5 j hj; omega, x6⟩, y, ⟨z1, by omega, z3⟩, zB, fun j j1 j2 j3 => ?_⟩
  obtain ⟨v, Dk, nk, pk, a1, a2, a3⟩ := w j j1 j2 j3
  exact ⟨v, Dk, nk, pk, a1, a2.keep sx (fun _ _ z => z) (fun _ _ z => z), a3⟩
theorem LWd.ub (x : LWd T J B l nz r bf s t m q sa pg tv g U S A G D ns p nx kp ck) (hb : HB g bf) (hK : HK T B l nz r bf s m q sa pg tv g S A G D ns nx done) : UB T J B nz bf s t m q sa pg tv g U S A G nx kp done 0 := by
  obtain ⟨⟨⟨x1, x2, x3, x4⟩, ⟨h1, h2, h3, h4, h5, h6, h7, h8⟩, ⟨n1, n2, n3, n4, n5⟩⟩, xL, xc, xz⟩ := x
  have hI := xL.2.2.2.1
  have n6 := xL.2.2.2.2.2.1
  refine ⟨⟨x1, x3, x4, fun j hj => (h3 j hj).1, fun j hj => (h4 j hj).1, n6.1, xz, n6.2⟩, ⟨n1, n2, n3, n4, n5, ?_⟩, ⟨hb.1, h8, h6⟩, fun i hi => (h2 i hi).2.1, fun j _ j2 j3 => ?_⟩
  · have e : S 28 2 = nI ns := hI.1.1
    rw [e]
    exact nI_pos' (by have := hI.1.2.1; omega)
  · obtain ⟨v, Dk, nk, pk, a1, a2, a3, a4⟩ := hK j j2 j3
    exact ⟨v, Dk, nk, pk, a1, a2, fun i hi => (a3 i hi).2, a4⟩
theorem s_undo1 (x : UB T J B nz bf s t m q sa pg tv g U S A G nx kp done k) (hkp : 0 < kp) (k8 : k < 8) (kd : k < done) : ∃ (g1 : AH) (S1 A1 : Nat → Nat → Int32) (G1 : Nat → Nat) (v : Nat), hR g bf k = some v ∧ hR g1 bf k = some v ∧ (hk g1 bf = 16 ∧ hl g1 bf = 9) ∧ UB T J B nz bf s t m q sa pg tv (alH (alH g1)) U S1 A1 G1 ((nx + 7) % 8) (kp - 1) done (k + 1) ∧ (hN g1 = hN g ∧ hS g1 = hS g) ∧ (∀ d K, EvM (d + 3) 75 [.ref 0] g K = K (.inl (some (.int (nI (kp - 1))))) g1) ∧ ∀ d K, EvM (d + 14) 141 [.ref 0, .ref v] g1 K = K (.inl (some (.int 1))) (alH (alH g1)) := by
  obtain ⟨⟨x1, x2, x3, x4, x5, x6⟩, ⟨n1, n2, n3, n4, n5, n7⟩, ⟨z1, z2, z3⟩, zB, w⟩ := x
  have er : rw8 nx 0 = 52 + 11 * ((nx + 7) % 8) := by unfold rw8; omega
  obtain ⟨v, Dk, nk, pk, a1, a2, a3, a4⟩ := w k (Nat.le_refl _) k8 kd
  rw [Nat.sub_self, er] at a2 a4
  have eu := fun d K => c_undo (d := d) (h := g) (T := T) (U := U) (S := S) (A := A) (J := J) (G := G) (K := K) n1 n2 n3 n4 hkp
  simp only [← x1.1] at eu
  have c := x1.cls (U' := U) (S' := Su S nx kp) (A' := pA A 28 (fun j => A (52 + 11 * ((nx + 7) % 8) + j))) (J' := J) (G' := upf G 28 (G (52 + 11 * ((nx + 7) % 8))))
  have s28 : Su S nx kp 28 = S (52 + 11 * ((nx + 7) % 8)) := funext fun i => by
    unfold Su
    rw [up2_ne (fun z => absurd z.1 (by decide))]
    exact pS_b
  have so : ∀ i, ¬ i = 28 → ¬ i = 50 → Su S nx kp i = S i := fun i i1 i2 => funext fun j => by
    unfold Su
    rw [up2_ne (fun z => i2 z.1), pS_ne i1, up2_ne (fun z => i2 z.1)]
  have g28 : upf G 28 (G (52 + 11 * ((nx + 7) % 8))) 28 = s := (upf_same _ _ _).trans a4
  have su1 : SUp (MH g T U (Su S nx kp) (pA A 28 (fun j => A (52 + 11 * ((nx + 7) % 8) + j))) J (upf G 28 (G (52 + 11 * ((nx + 7) % 8))))) T s t q sa m pg := x2.mh
  have Lv : LLn (MH g T U (Su S nx kp) (pA A 28 (fun j => A (52 + 11 * ((nx + 7) % 8) + j))) J (upf G 28 (G (52 + 11 * ((nx + 7) % 8))))) B v Dk nz nk q sa tv pg m (Su S nx kp 28) (fun j => (pA A 28 (fun j => A (52 + 11 * ((nx + 7) % 8) + j))) (28 + j)) pk := by
    rw [s28]
    exact (a2.keep c.1 zB a3).ca (fun j j1 j2 => pA_g j1 j2)
  have ag := fun d K => s_agrees (d := d) (K := K) c.2 (by rw [g28]; exact su1) Lv
  have rb : hR (MH g T U (Su S nx kp) (pA A 28 (fun j => A (52 + 11 * ((nx + 7) % 8) + j))) J (upf G 28 (G (52 + 11 * ((nx + 7) % 8))))) bf = hR g bf := c.1.R z2 z3
  have hI := Lv.2.2.2.1
  refine ⟨_, Su S nx kp, _, _, v, a1, by rw [rb]; exact a1, ⟨(c.1.k z2).trans z1.1, (c.1.l z2).trans z1.2⟩, UB.hole (UB.hole ⟨⟨c.2, su1, g28, x4, x5, x6⟩, ⟨?_, Nat.mod_lt _ (by decide), ?_, by omega, ?_, ?_⟩, ⟨⟨(c.1.k z2).trans z1.1, (c.1.l z2).trans z1.2⟩, z2, z3⟩, zB, fun j j1 j2 j3 => ?_⟩), ⟨rfl, rfl⟩, eu, ag⟩
  · unfold Su
    rw [up2_ne (by decide), pS_ne (by decide), up2_same]
  · unfold Su
    rw [up2_same]
  · rw [so 13 (by decide) (by decide)]
    exact n5
  · have e : Su S nx kp 28 2 = nI nk := hI.1.1
    rw [e]
    exact nI_pos' (by have := hI.1.2.1; omega)
  · obtain ⟨v', Dk', nk', pk', b1, b2, b3, b4⟩ := w j (by omega) j2 j3
    obtain ⟨i, ei, ej⟩ : ∃ i, rw8 nx (j - k) = 52 + 11 * i ∧ rw8 ((nx + 7) % 8) (j - (k + 1)) = 52 + 11 * i := ⟨(nx + 7 - (j - k)) % 8, rfl, by unfold rw8; omega⟩
    rw [ei] at b2 b4
    refine ⟨v', Dk', nk', pk', by rw [rb]; exact b1, ?_, b3, ?_⟩
    · rw [ej, so (52 + 11 * i) (by omega) (by omega)]
      exact (b2.keep c.1 zB b3).ca (fun j' j1' j2' => pA_o (by omega))
    · rw [ej, upf_ne _ _ (by omega)]
      exact b4
theorem s_undos (hd : done < 1000) : ∀ (j k : Nat) (g : AH) (S A : Nat → Nat → Int32) (G : Nat → Nat) (nx kp : Nat), k + j = min done 8 → UB T J B nz bf s t m q sa pg tv g U S A G nx kp done k → j ≤ kp → ∃ (g' : AH) (S' A' : Nat → Nat → Int32) (G' : Nat → Nat) (nx' kp' : Nat), UB T J B nz bf s t m q sa pg tv g' U S' A' G' nx' kp' done (min done 8) ∧ (hN g' ≤ hN g + 2 * j ∧ hS g' ≤ hS g + 12 * j) ∧ ∀ d Q, Es (d + 30) 142 994 [some scrV, some (.int 1), l2, some (.ref 0), l4, some (.ref r), some (.ref l), some (.ref bf), some (.int (nI (done))), some (.int (nI (k))), l10, l11, l12, l13, l14, l15, l16, l17, l18, l19, l20, l21, l22, l23, l24] [] g Q = Es (d + 30) 142 1043 [some scrV, some (.int 1), l2, some (.ref 0), l4, some (.ref r), some (.ref l), some (.ref bf), some (.int (nI (done))), some (.int (nI (min done 8))), l10, l11, l12, l13, l14, l15, l16, l17, l18, l19, l20, l21, l22, l23, l24] [] g' Q
  | 0, k, g, S, A, G, nx, kp, hk1, x, hj => by
    have ek : k = min done 8 := by omega
    refine ⟨g, S, A, G, nx, kp, by rw [← ek]; exact x, ⟨by omega, by omega⟩, fun d Q => ?_⟩
    rw [e142_994, ← ek]
    by_cases h8 : 8 ≤ k
    · have c : ((8 : Int32) ≤ nI k) = True := eq_true ((nI_leI (a := 8) (b := k) (by omega) (by omega)).mpr h8)
      simp only [e142_996, e142_998, e142_1001, e142_1003, e142_1005, e142_1008, e142_1009, e142_1012, e142_1013, e142_1016, e142_1019, e142_1020, e142_1022, e142_1024, e142_1025, e142_1028, e142_1031, e142_1032, e142_1035, e142_1036, e142_1037, e142_1040, nl_i, nl_r, nl_0, nl_j, nb0, nb1, nbI, orv_s, konN_v, konN_n, konN_e, true_and, and_true, and_self, if_true, if_false, ite_true, ite_false, isR_ref, true_or, or_true, isR_null, rg10, rg11, rg12, rg13, rg14, rg15, rg16, rh13, rh14, rh15, rh16, bI_T, bI_F, bI_Fb, i1z, Bool.false_eq_true, ksN_v, ksN_n, nl_scr, c]
    · have c : ((8 : Int32) ≤ nI k) = False := eq_false (fun z => h8 ((nI_leI (a := 8) (b := k) (by omega) (by omega)).mp z))
      have c2 : (nI done ≤ nI k) = True := eq_true ((nI_leI (a := done) (b := k) (by omega) (by omega)).mpr (by omega))
      simp only [e142_996, e142_998, e142_1001, e142_1003, e142_1005, e142_1008, e142_1009, e142_1012, e142_1013, e142_1016, e142_1019, e142_1020, e142_1022, e142_1024, e142_1025, e142_1028, e142_1031, e142_1032, e142_1035, e142_1036, e142_1037, e142_1040, nl_i, nl_r, nl_0, nl_j, nb0, nb1, nbI, orv_s, konN_v, konN_n, konN_e, true_and, and_true, and_self, if_true, if_false, ite_true, ite_false, isR_ref, true_or, or_true, isR_null, rg10, rg11, rg12, rg13, rg14, rg15, rg16, rh13, rh14, rh15, rh16, bI_T, bI_F, bI_Fb, i1z, Bool.false_eq_true, ksN_v, ksN_n, nl_scr, c, c2]
  | j + 1, k, g, S, A, G, nx, kp, hk1, x, hj => by
    obtain ⟨g1, S1, A1, G1, v, hv, hv1, ⟨kb, lb⟩, x1, ⟨n1, m1⟩, eu, ag⟩ := s_undo1 x (by omega) (by omega) (by omega)
    obtain ⟨g2, S2, A2, G2, nx2, kp2, x2, ⟨b1, b2⟩, e2⟩ := s_undos hd j (k + 1) (alH (alH g1)) S1 A1 G1 ((nx + 7) % 8) (kp - 1) (by omega) x1 (by omega)
    have b1 : hN g2 ≤ hN g1 + 1 + 1 + 2 * j := b1
    have b2 : hS g2 ≤ hS g1 + 6 + 6 + 12 * j := b2
    refine ⟨g2, S2, A2, G2, nx2, kp2, x2, ⟨by omega, by omega⟩, fun d Q => ?_⟩
    have c : ((8 : Int32) ≤ nI k) = False := eq_false (fun z => by
      have := (nI_leI (a := 8) (b := k) (by omega) (by omega)).mp z
      omega)
    have c2 : (nI done ≤ nI k) = False := eq_false (fun z => by
      have := (nI_leI (a := done) (b := k) (by omega) (by omega)).mp z
      omega)
    have c3 : (nI (kp - 1) < 0) = False := eq_false (nI_pos (by have := x.2.1.2.2.2.1; omega))
    have k0 : hk g 0 = 6 := by rw [x.1.1.1]; exact k_0
    have ik : inb (nI k) 9 = True := inbT (by omega) (by omega)
    have zz : zn (nI k) = k := zn_nI (by omega)
    have i1 : nI k + 1 = nI (k + 1) := nI_add k 1
    rw [e142_994]
    simp only [e142_996, e142_998, e142_1001, e142_1003, e142_1005, e142_1008, e142_1009, e142_1012, e142_1013, e142_1016, e142_1019, e142_1020, e142_1022, e142_1024, e142_1025, e142_1028, e142_1031, e142_1032, e142_1035, e142_1036, e142_1037, e142_1040, nl_i, nl_r, nl_0, nl_j, nb0, nb1, nbI, orv_s, konN_v, konN_n, konN_e, true_and, and_true, and_self, if_true, if_false, ite_true, ite_false, isR_ref, true_or, or_true, isR_null, rg10, rg11, rg12, rg13, rg14, rg15, rg16, rh13, rh14, rh15, rh16, bI_T, bI_F, bI_Fb, i1z, Bool.false_eq_true, ksN_v, ksN_n, nl_scr, c, c2, c3, k0, eu, kb, lb, ik, zz, hv1, orv_s, ag, i1, i1n0]
    exact e2 d Q
theorem UB.tail (x : UB T J B nz bf s t m q sa pg tv g U S A G nx kp done k) {l9 : Option Value} : ∀ d Q, Es (d + 30) 142 1043 [some scrV, some (.int 1), some (.int iv), some (.ref 0), l4, some (.ref r), some (.ref l), some (.ref bf), some (.int (nI (done))), l9, l10, l11, l12, l13, l14, l15, l16, l17, l18, l19, l20, l21, l22, l23, l24] [] g Q = Q [some scrV, some (.int 1), some (.int (iv + 1)), some (.ref 0), l4, some (.ref r), some (.ref l), some (.ref bf), some (.int (nI (done))), l9, l10, l11, l12, l13, l14, l15, l16, l17, l18, l19, l20, l21, l22, l23, l24] (alH (alH (alH (alH (alH (alH g)))))) := by
  have y1 := x.hole
  have y2 := y1.hole
  have y3 := y2.hole
  have y4 := y3.hole
  have y5 := y4.hole
  have q00 : 0 < q 0 := by rw [x.1.2.2.2.2.2.1, show (0 : Int32) = nI 0 from rfl, lt_nI (by omega) (by have := x.1.2.2.2.2.2.2.2; omega)]; exact x.1.2.2.2.2.2.2.1
  have g28 := x.1.2.2.1
  have s2 : SUp (alH g) T (G 28) t q sa m pg := by rw [g28]; exact y1.1.2.1
  have s3 : SUp (alH (alH g)) T (G 28) t q sa m pg := by rw [g28]; exact y2.1.2.1
  have e1 := fun d K => c_loadX (d := d) (h := g) (T := T) (U := U) (S := S) (A := A) (J := J) (G := G) (K := K) x.2.1.2.2.2.2.1
  have e2 := fun d K => c_zone7 (d := d) (h := alH g) (U := U) (S := S) (A := A) (J := J) (K := K) (x := 0) s2 ⟨by decide, q00⟩
  have e3 := fun d K => c_zoneX (d := d) (h := alH (alH g)) (U := U) (S := S) (A := A) (J := J) (K := K) (x := -1) (y := 7) s3 (fun z => absurd z.1 (by decide))
  have e4 := fun d K => c_stateAfterX (d := d) (h := alH (alH (alH g))) (T := T) (U := U) (S := S) (A := A) (J := J) (G := G) (K := K) x.2.1.2.2.2.2.2
  have e5 := fun d K => c_learnedX (d := d) (h := alH (alH (alH (alH g)))) (T := T) (U := U) (S := S) (A := A) (J := J) (G := G) (K := K)
  have e6 := fun d K => c_countX (d := d) (h := alH (alH (alH (alH (alH g))))) (T := T) (U := U) (S := S) (A := A) (J := J) (G := G) (K := K)
  simp only [← x.1.1.1, x.1.1.ho] at e1
  simp only [← y1.1.1.1, y1.1.1.ho] at e2
  simp only [← y2.1.1.1, y2.1.1.ho] at e3
  simp only [← y3.1.1.1, y3.1.1.ho] at e4
  simp only [← y4.1.1.1, y4.1.1.ho] at e5
  simp only [← y5.1.1.1, y5.1.1.ho] at e6
  intro d Q
  simp only [e142_1043, e142_1044, e142_1047, e142_1048, e142_1049, e142_1052, e142_1054, e142_1057, e142_1058, e142_1059, e142_1061, e142_1064, e142_1066, e142_1069, e142_1070, e142_1071, e142_1073, e142_1076, e142_1078, e142_1081, e142_1082, e142_1083, e142_1086, e142_1089, e142_1091, e142_1094, e142_1095, e142_1097, e142_1098, e142_1101, e142_1103, e142_1106, e142_1107, e142_1109, e142_1112, e142_1114, e142_1117, e142_1118, e142_1121, e142_1122, e142_1123, nl_i, nl_r, nl_0, nl_j, nb0, nb1, nbI, orv_s, konN_v, konN_n, konN_e, true_and, and_true, and_self, if_true, if_false, ite_true, ite_false, isR_ref, true_or, or_true, isR_null, rg10, rg11, rg12, rg13, rg14, rg15, rg16, rh13, rh14, rh15, rh16, bI_T, bI_F, bI_Fb, i1z, Bool.false_eq_true, ksN_v, ksN_n, nl_scr, e1, e2, e3, e4, e5, e6, i1n0]
  exact es_stop
end CSX
