/-! THE TEXT OF A TREE -/
theorem StrR.isR {h : AH} {X : Nat → Prop} {v : Value} {bs : List Nat} (x : StrR h X v bs) : (isR v = true) = True := by
  rcases x.2 with ⟨k, hk6, rfl, -⟩ | ⟨i, b, rfl, -⟩
  · exact isRL hk6
  · exact isR_ref
theorem lit_str {h : AH} {X : Nat → Prop} {k : Nat} {bs : List Nat} (hk : k < 17) (hl : lenJ.getD k 0 = bs.length) (hb : ∀ j, j < bs.length → (bytJ.getD k []).getD j 0 = nI (bs.getD j 0)) (hc : ∀ j, j < bs.length → bs.getD j 0 < 128) (hn : bs.length ≤ 1000) : StrR h X (litV k) bs := ⟨⟨hc, hn⟩, Or.inl ⟨k, hk, rfl, hl, hb⟩⟩
theorem lit_op {h : AH} {X : Nat → Prop} : StrR h X (litV 11) (opT 2) ∧ StrR h X (litV 12) (opT 3) ∧ StrR h X (litV 13) (opT 4) ∧ StrR h X (litV 14) (opT 5) ∧ StrR h X (litV 15) [40] ∧ StrR h X (litV 16) [41] ∧ StrR h X (litV 10) [] :=
  ⟨lit_str (by decide) (by decide) (by decide) (by decide) (by decide), lit_str (by decide) (by decide) (by decide) (by decide) (by decide), lit_str (by decide) (by decide) (by decide) (by decide) (by decide), lit_str (by decide) (by decide) (by decide) (by decide) (by decide), lit_str (by decide) (by decide) (by decide) (by decide) (by decide), lit_str (by decide) (by decide) (by decide) (by decide) (by decide), lit_str (by decide) (by decide) (by decide) (by decide) (by decide)⟩
theorem lit_vr {h : AH} {X : Nat → Prop} {j : Nat} (hj : j < 3) : StrR h X (litV (vrN j)) (vrT j) := by
  rcases (show j = 0 ∨ j = 1 ∨ j = 2 by omega) with rfl | rfl | rfl
  · exact lit_str (by decide) (by decide) (by decide) (by decide) (by decide)
  · exact lit_str (by decide) (by decide) (by decide) (by decide) (by decide)
  · exact lit_str (by decide) (by decide) (by decide) (by decide) (by decide)
section TXT
variable {d : Nat} {h : AH} {B X : Nat → Prop} {K : AO → AH → Prop} {i b cap n k a lev : Nat} {bs cs : List Nat} {v : Value}
theorem LeafR.len {tx L V} (x : LeafR h a tx L V) : (tx lev).length ≤ 9 := by
  rcases x with ⟨-, n, hn, -, rfl, -⟩ | ⟨-, j, hj, -, rfl, -⟩
  · have := (dgs_ok (n := n) (by omega)).2.2
    show (dgs n).length ≤ 9
    omega
  · have key : ∀ j, j < 3 → (vrT j).length ≤ 9 := by decide
    exact key j hj
theorem opT_len : (opT k).length ≤ 3 := by
  unfold opT
  repeat' split
  all_goals decide
theorem NodeR.len : ∀ {n a tx L V}, NodeR h B n a tx L V → ∀ lev, (tx lev).length + 5 ≤ 14 * 2 ^ n
  | 0, a, tx, L, V, x, lev => by have := x.2.len (lev := lev); omega
  | n + 1, a, tx, L, V, x, lev => by
    have pw : 2 ^ (n + 1) = 2 * 2 ^ n := by rw [Nat.pow_succ]; omega
    have p1 : 1 ≤ 2 ^ n := Nat.one_le_two_pow
    rcases x.2 with y | ⟨k, b, c, tb, tc, Lb, Lc, Vb, Vc, h1, h2, h5, h6, rfl, -⟩
    · have := y.len (lev := lev)
      omega
    · have l1 := h5.len (ownL k)
      have l2 := h6.len (ownL k + 1)
      have l3 := opT_len (k := k)
      unfold opTx
      split
      · simp only [List.length_append, List.length_cons, List.length_nil]
        omega
      · simp only [List.length_append]
        omega
theorem s_bn : ∃ h', (Sm noW h h' ∧ hN h' = hN h + 2 ∧ hS h' = hS h + 20) ∧ SBr h' (hN h) (hN h + 1) 16 [] ∧ hk (alO h 21 4 (dfl 10)) (hN h) = 21 ∧ ∀ d K, EvM (d + 2) 105 [.ref (hN h)] (alO h 21 4 (dfl 10)) K = K (.inl none) h' := by
  have k0 : hk (alO h 21 4 (dfl 10)) (hN h) = 21 := alO_k
  obtain ⟨h', ⟨s1, n1, m1⟩, x, r⟩ := s_bnew k0 (show hN h < hN h + 1 by omega)
  refine ⟨h', ⟨((Sm.alO (W := fun i => i = hN h)).tr s1).mo (fun i hi z => by omega), n1, m1⟩, x (by rw [alO_F]; rfl), k0, r⟩
theorem Sm.nw {h h1 h2 : AH} (s1 : Sm noW h h1) (s2 : Sm (fun x => hN h ≤ x) h1 h2) : Sm noW h h2 := ((s1.mo (fun _ _ z => z.elim)).tr s2).mo (fun i hi z => by have : hN h ≤ i := z; omega)
theorem leaf_text {tx L V} (x : LeafR h a tx L V) (hk8 : hk h a = 8) (ha : a < hN h) : ∃ h' v, (Sm noW h h' ∧ hN h' ≤ hN h + 5100 ∧ hS h' ≤ hS h + 5100) ∧ StrR h' (fun x => hN h ≤ x) v (tx lev) ∧ ∀ e K, 8 ≤ e → EvM e 99 [.ref a, .int (nI lev)] h K = K (.inl (some v)) h' := by
  rcases x with ⟨f0, m, hm, f1, rfl, -⟩ | ⟨f0, j, hj, f1, rfl, -⟩
  · obtain ⟨h1, ⟨s1, n1, m1⟩, x1, k1, r1⟩ := s_bn (h := h)
    obtain ⟨h2, b2, cap2, ⟨s2, n2, m2⟩, x2, hb2, r2⟩ := s_app x1 (lit_op (h := h1) (X := fun _ => False)).2.2.2.2.2.2 ⟨fun z => z, fun z => z⟩ (by decide)
    obtain ⟨h3, b3, cap3, ⟨s3, n3, m3⟩, x3, hb3, r3⟩ := s_appI x2 (show m < 1000 by omega) (by decide)
    obtain ⟨F, hF', r4⟩ := s_toStr x3
    have ok := ts_ok (h := h3) hF' x3.2.2.2.2.2
    have sx1 : Sm (fun x => hN h ≤ x) h1 h2 := s2.mo (fun i hi z => by show hN h ≤ i; omega)
    have sx2 : Sm (fun x => hN h ≤ x) h2 h3 := s3.mo (fun i hi z => by show hN h ≤ i; omega)
    have t2 := s1.nw sx1
    have t3 := t2.nw sx2
    have k2a : hk h2 a = 8 := (t2.k ha).trans hk8
    have f2a : hF h2 a 1 = .int (nI m) := (t2.F ha (fun z => z)).trans f1
    have l3 : hN h ≤ hN h3 := t3.1
    have q1 : hk h1 (hN h) = 21 := x1.1.1
    have q2 : hk h2 (hN h) = 21 := x2.1.1
    have q3 : hk h3 (hN h) = 21 := x3.1.1
    refine ⟨_, _, ⟨t3.tr ok.1.1, by have := ok.1.2.1; omega, by have := ok.1.2.2; omega⟩, ok.2.mo (fun i hi z => by show hN h ≤ i; have : hN h3 ≤ i := z; omega), fun e K he => ?_⟩
    obtain ⟨d, rfl⟩ : ∃ d, e = d + 6 + 1 := ⟨e - 7, by omega⟩
    have r1' := fun K => r1 (d + 4) K
    have r3' := fun K => r3 (d + 1) K
    simp only [i99_0, i99_1, i99_4, i99_7, i99_10, i99_11, i99_14, i99_16, i99_19, i99_20, i99_23, i99_26, i99_29, in99, nl_i, nl_r, nl_0, nl_j, nb0, nb1, nbI, orv_s, konN_v, konN_n, konN_e, true_and, and_true, and_self, if_true, if_false, ite_true, ite_false, isR_ref, true_or, or_true, isR_null, rg10, rg11, rg12, rg13, rg14, rg15, rg16, rh13, rh14, rh15, rh16, bI_T, bI_F, bI_Fb, i1z, Bool.false_eq_true, hk8, f0, k1, r1', q1, r2, k2a, f2a, q2, r3', q3, r4]
  · refine ⟨h, litV (vrN j), ⟨Sm.rf, by omega, by omega⟩, lit_vr hj, fun e K he => ?_⟩
    have hi := inbT hj (show 3 < 2 ^ 31 by omega)
    have hz : (nI j).toNatClampNeg = j := nI_clamp (by omega)
    have hr := (lit_vr (h := h) (X := fun _ => False) hj).isR
    simp only [i99_0, i99_1, i99_4, i99_7, i99_10, i99_11, i99_14, i99_16, i99_19, i99_20, i99_23, i99_26, i99_29, i99_30, i99_31, i99_34, i99_35, i99_38, i99_41, i99_42, i99_45, i99_46, in99, nl_i, nl_r, nl_0, nl_j, nb0, nb1, nbI, orv_s, konN_v, konN_n, konN_e, true_and, and_true, and_self, if_true, if_false, ite_true, ite_false, isR_ref, true_or, or_true, isR_null, rg10, rg11, rg12, rg13, rg14, rg15, rg16, rh13, rh14, rh15, rh16, bI_T, bI_F, bI_Fb, i1z, Bool.false_eq_true, hk8, f0, f1, hi, hz, hr, show ((1 : Int32) = 0) = False from eq_false (by decide)]
theorem s_text : ∀ (n : Nat) (h : AH) (B : Nat → Prop) {a tx L V}, n ≤ 2 → NodeR h B n a tx L V → ∀ lev, lev ≤ 3 → ∃ h' v, (Sm noW h h' ∧ hN h' + 14200 ≤ hN h + 19300 * 2 ^ n ∧ hS h' + 14200 ≤ hS h + 19300 * 2 ^ n) ∧ StrR h' (fun x => hN h ≤ x) v (tx lev) ∧ ∀ e K, n + 8 ≤ e → EvM e 99 [.ref a, .int (nI lev)] h K = K (.inl (some v)) h'
  | 0, h, B, a, tx, L, V, hn, x, lev, hlev => by
    obtain ⟨h', v, ⟨y1, y2, y3⟩, y4, y5⟩ := leaf_text (lev := lev) x.2 x.1.2 x.1.1.2
    exact ⟨h', v, ⟨y1, by omega, by omega⟩, y4, fun e K he => y5 e K (by omega)⟩
  | n + 1, h, B, a, tx, L, V, hn, x, lev, hlev => by
    have pw : 2 ^ (n + 1) = 2 * 2 ^ n := by rw [Nat.pow_succ]; omega
    have p1 : 1 ≤ 2 ^ n := Nat.one_le_two_pow
    have hlen := x.len lev
    have pn : 2 ^ (n + 1) ≤ 4 := by
      rcases (show n = 0 ∨ n = 1 by omega) with rfl | rfl <;> decide
    rcases x.2 with y | ⟨k, b, c, tb, tc, Lb, Lc, Vb, Vc, ⟨hk2, hk6⟩, ⟨f0, f2, f3⟩, hb, hc, rfl, -⟩
    · obtain ⟨h', v, ⟨y1, y2, y3⟩, y4, y5⟩ := leaf_text (lev := lev) y x.1.2 x.1.1.2
      exact ⟨h', v, ⟨y1, by omega, by omega⟩, y4, fun e K he => y5 e K (by omega)⟩
    · have ha := x.1.1.2
      have hk8 := x.1.2
      have lb := hb.len (ownL k)
      have lc := hc.len (ownL k + 1)
      have lo := opT_len (k := k)
      have ow : ownL k = 1 ∨ ownL k = 2 := by unfold ownL; split <;> simp
      obtain ⟨h1, ⟨s1, n1, m1⟩, x1, k1, r1⟩ := s_bn (h := h)
      obtain ⟨h2, v2, ⟨s2, n2, m2⟩, y2, r2⟩ := s_text n h1 B (by omega) (NodeR.keep s1 (fun _ _ z => z) hb) (ownL k) (by omega)
      have l12 := s2.1
      have x1' := x1.keep s2 (fun z => z) (fun z => z)
      obtain ⟨h3, b3, cap3, ⟨s3, n3, m3⟩, x3, hb3, r3⟩ := s_app x1' y2 ⟨fun z => by have : hN h1 ≤ hN h := z; omega, fun z => by have : hN h1 ≤ hN h + 1 := z; omega⟩ (by rw [List.length_nil]; omega)
      rw [List.nil_append] at x3
      have sx3 : Sm (fun x => hN h ≤ x) h2 h3 := s3.mo (fun i hi z => by show hN h ≤ i; omega)
      have t3 : Sm noW h h3 := (s1.tr s2).nw sx3
      have l23 : hN h2 ≤ hN h3 := s3.1
      have kop : ∃ ko, StrR h3 (fun _ => False) (litV ko) (opT k) ∧ ∀ d K l0 l1 l2 l3, l0 = some (.ref a) → Ev (d + 7) 99 79 [l0, l1, l2, l3] [.ref (hN h)] h3 K = Ev (d + 7) 99 120 [l0, l1, l2, l3] [litV ko, .ref (hN h)] h3 K := by
        have k3 : hk h3 a = 8 := (t3.k ha).trans hk8
        have g0 : hF h3 a 0 = .int (nI k) := (t3.F ha (fun z => z)).trans f0
        have lt := lit_op (h := h3) (X := fun _ => False)
        have c32 : (nI 3 = 2) = False := eq_false (by decide)
        have c42 : (nI 4 = 2) = False := eq_false (by decide)
        have c43 : (nI 4 = 3) = False := eq_false (by decide)
        have c52 : (nI 5 = 2) = False := eq_false (by decide)
        have c53 : (nI 5 = 3) = False := eq_false (by decide)
        have c54 : (nI 5 = 4) = False := eq_false (by decide)
        have c22 : (nI 2 = 2) = True := eq_true rfl
        have c33 : (nI 3 = 3) = True := eq_true rfl
        have c44 : (nI 4 = 4) = True := eq_true rfl
        rcases (show k = 2 ∨ k = 3 ∨ k = 4 ∨ k = 5 by omega) with rfl | rfl | rfl | rfl
        · refine ⟨11, lt.1, fun d K l0 l1 l2 l3 e0 => ?_⟩
          subst e0
          simp only [i99_79, i99_80, i99_83, i99_84, i99_87, i99_89, i99_92, i99_93, i99_96, i99_97, i99_100, i99_102, i99_105, i99_106, i99_109, i99_110, i99_113, i99_115, i99_118, nl_i, nl_r, nl_0, nl_j, nb0, nb1, nbI, orv_s, konN_v, konN_n, konN_e, true_and, and_true, and_self, if_true, if_false, ite_true, ite_false, isR_ref, true_or, or_true, isR_null, rg10, rg11, rg12, rg13, rg14, rg15, rg16, rh13, rh14, rh15, rh16, bI_T, bI_F, bI_Fb, i1z, Bool.false_eq_true, k3, g0, c22]
        · refine ⟨12, lt.2.1, fun d K l0 l1 l2 l3 e0 => ?_⟩
          subst e0
          simp only [i99_79, i99_80, i99_83, i99_84, i99_87, i99_89, i99_92, i99_93, i99_96, i99_97, i99_100, i99_102, i99_105, i99_106, i99_109, i99_110, i99_113, i99_115, i99_118, nl_i, nl_r, nl_0, nl_j, nb0, nb1, nbI, orv_s, konN_v, konN_n, konN_e, true_and, and_true, and_self, if_true, if_false, ite_true, ite_false, isR_ref, true_or, or_true, isR_null, rg10, rg11, rg12, rg13, rg14, rg15, rg16, rh13, rh14, rh15, rh16, bI_T, bI_F, bI_Fb, i1z, Bool.false_eq_true, k3, g0, c32, c33]
        · refine ⟨13, lt.2.2.1, fun d K l0 l1 l2 l3 e0 => ?_⟩
          subst e0
          simp only [i99_79, i99_80, i99_83, i99_84, i99_87, i99_89, i99_92, i99_93, i99_96, i99_97, i99_100, i99_102, i99_105, i99_106, i99_109, i99_110, i99_113, i99_115, i99_118, nl_i, nl_r, nl_0, nl_j, nb0, nb1, nbI, orv_s, konN_v, konN_n, konN_e, true_and, and_true, and_self, if_true, if_false, ite_true, ite_false, isR_ref, true_or, or_true, isR_null, rg10, rg11, rg12, rg13, rg14, rg15, rg16, rh13, rh14, rh15, rh16, bI_T, bI_F, bI_Fb, i1z, Bool.false_eq_true, k3, g0, c42, c43, c44]
        · refine ⟨14, lt.2.2.2.1, fun d K l0 l1 l2 l3 e0 => ?_⟩
          subst e0
          simp only [i99_79, i99_80, i99_83, i99_84, i99_87, i99_89, i99_92, i99_93, i99_96, i99_97, i99_100, i99_102, i99_105, i99_106, i99_109, i99_110, i99_113, i99_115, i99_118, nl_i, nl_r, nl_0, nl_j, nb0, nb1, nbI, orv_s, konN_v, konN_n, konN_e, true_and, and_true, and_self, if_true, if_false, ite_true, ite_false, isR_ref, true_or, or_true, isR_null, rg10, rg11, rg12, rg13, rg14, rg15, rg16, rh13, rh14, rh15, rh16, bI_T, bI_F, bI_Fb, i1z, Bool.false_eq_true, k3, g0, c52, c53, c54]
      obtain ⟨ko, yo, ro⟩ := kop
      obtain ⟨h4, b4, cap4, ⟨s4, n4, m4⟩, x4, hb4, r4⟩ := s_app x3 yo ⟨fun z => z, fun z => z⟩ (by omega)
      have sx4 : Sm (fun x => hN h ≤ x) h3 h4 := s4.mo (fun i hi z => by show hN h ≤ i; omega)
      have t4 := t3.nw sx4
      have l34 : hN h3 ≤ hN h4 := s4.1
      obtain ⟨h5, v5, ⟨s5, n5, m5⟩, y5, r5⟩ := s_text n h4 B (by omega) (NodeR.keep t4 (fun _ _ z => z) hc) (ownL k + 1) (by omega)
      have l45 : hN h4 ≤ hN h5 := s5.1
      have x4' := x4.keep s5 (fun z => z) (fun z => z)
      have xb4 := x4.2.2.2.1
      obtain ⟨h6, b6, cap6, ⟨s6, n6, m6⟩, x6, hb6, r6⟩ := s_app x4' y5 ⟨fun z => by have : hN h4 ≤ hN h := z; omega, fun z => by have : hN h4 ≤ b4 := z; omega⟩ (by rw [List.length_append]; omega)
      have sx6 : Sm (fun x => hN h ≤ x) h5 h6 := s6.mo (fun i hi z => by show hN h ≤ i; omega)
      have t6 := (t4.tr s5).nw sx6
      have l56 : hN h5 ≤ hN h6 := s6.1
      obtain ⟨F, hF', r7⟩ := s_toStr x6
      have ok := ts_ok (h := h6) hF' x6.2.2.2.2.2
      obtain ⟨h7, hh7⟩ : ∃ g, g = tsH h6 (tb (ownL k) ++ opT k ++ tc (ownL k + 1)).length F := ⟨_, rfl⟩
      rw [← hh7] at ok r7
      have t7 := t6.tr ok.1.1
      have q1 : hk h2 (hN h) = 21 := x1'.1.1
      have q2 : hk h2 a = 8 := ((s1.tr s2).k ha).trans hk8
      have q3 : hk h3 (hN h) = 21 := x3.1.1
      have q4 : hk h4 (hN h) = 21 := x4.1.1
      have q4a : hk h4 a = 8 := (t4.k ha).trans hk8
      have q5 : hk h5 (hN h) = 21 := x4'.1.1
      have q6 : hk h6 (hN h) = 21 := x6.1.1
      have w1 : hk h1 a = 8 := (s1.k ha).trans hk8
      have w2 : hF h1 a 2 = .ref b := (s1.F ha (fun z => z)).trans f2
      have w3 : hF h4 a 3 = .ref c := (t4.F ha (fun z => z)).trans f3
      have kb8 : hk h1 b = 8 := (s1.k hb.k.1.2).trans hb.k.2
      have kc8 : hk h4 c = 8 := (t4.k hc.k.1.2).trans hc.k.2
      have q1' : hk h1 (hN h) = 21 := x1.1.1
      have ek0 : (nI k = 0) = False := eq_false (fun y => by have := nI_inj (by omega) (by omega) (y.trans nI_0.symm); omega)
      have ek1 : (nI k = 1) = False := eq_false (fun y => by have := nI_inj (a := k) (b := 1) (by omega) (by omega) y; omega)
      have e4 : ((4 : Int32) ≤ nI k) = ¬ (k < 4) := by
        rw [show (4 : Int32) = nI 4 from rfl, nI_leI (by omega) (by omega)]
        exact propext ⟨fun _ => by omega, fun _ => by omega⟩
      have eow : (if k < 4 then (1 : Int32) else 2) = nI (ownL k) := by unfold ownL; split <;> rfl
      have front : ∀ d K, EvM (d + 7) 99 [.ref a, .int (nI lev)] h K = Ev (d + 7) 99 61 [some (.ref a), some (.int (nI lev)), some (.int (nI (ownL k))), none] [] h K := fun d K => by
        simp only [i99_0, i99_1, i99_4, i99_7, i99_10, i99_11, i99_14, i99_16, i99_19, i99_20, i99_23, i99_26, i99_29, i99_30, i99_31, i99_34, i99_35, i99_38, i99_41, i99_42, i99_45, i99_46, i99_47, i99_48, i99_51, i99_52, i99_55, i99_56, i99_59, i99_60, in99, nl_i, nl_r, nl_0, nl_j, nb0, nb1, nbI, orv_s, konN_v, konN_n, konN_e, true_and, and_true, and_self, if_true, if_false, ite_true, ite_false, isR_ref, true_or, or_true, isR_null, rg10, rg11, rg12, rg13, rg14, rg15, rg16, rh13, rh14, rh15, rh16, bI_T, bI_F, bI_Fb, i1z, Bool.false_eq_true, hk8, f0, ek0, ek1, e4, ← eow]
        by_cases h4 : k < 4
        · simp only [h4, if_true, not_true, if_false]
        · simp only [h4, if_false, not_false_eq_true, if_true]
      have mid : ∀ d K, n + 8 ≤ d + 6 → EvM (d + 7) 99 [.ref a, .int (nI lev)] h K = Ev (d + 7) 99 140 [some (.ref a), some (.int (nI lev)), some (.int (nI (ownL k))), some (.ref (hN h6))] [] h7 K := fun d K hd => by
        have r1' := fun K => r1 (d + 4) K
        have r2' := fun K => r2 (d + 6) K hd
        have r5' := fun K => r5 (d + 6) K hd
        have e1 : nI (ownL k) + 1 = nI (ownL k + 1) := (nI_succ _).symm
        rw [front]
        simp only [i99_61, i99_64, i99_65, i99_68, i99_69, i99_72, i99_73, i99_76, nl_i, nl_r, nl_0, nl_j, nb0, nb1, nbI, orv_s, konN_v, konN_n, konN_e, true_and, and_true, and_self, if_true, if_false, ite_true, ite_false, isR_ref, true_or, or_true, isR_null, rg10, rg11, rg12, rg13, rg14, rg15, rg16, rh13, rh14, rh15, rh16, bI_T, bI_F, bI_Fb, i1z, Bool.false_eq_true, k1, r1', w1, w2, q1', kb8, r2', q1, r3]
        rw [ro d K _ _ _ _ rfl]
        simp only [i99_120, i99_123, i99_124, i99_127, i99_128, i99_129, i99_130, i99_133, i99_136, i99_139, nl_i, nl_r, nl_0, nl_j, nb0, nb1, nbI, orv_s, konN_v, konN_n, konN_e, true_and, and_true, and_self, if_true, if_false, ite_true, ite_false, isR_ref, true_or, or_true, isR_null, rg10, rg11, rg12, rg13, rg14, rg15, rg16, rh13, rh14, rh15, rh16, bI_T, bI_F, bI_Fb, i1z, Bool.false_eq_true, q3, r4, q4a, w3, e1, kc8, r5', q5, r6, q6, r7]
      by_cases hlv : ownL k < lev
      · have nlv : (nI lev ≤ nI (ownL k)) = False := eq_false (by rw [nI_leI (by omega) (by omega)]; omega)
        obtain ⟨a1, ⟨u1, an1, am1⟩, z1, ak1, ar1⟩ := s_bn (h := h7)
        obtain ⟨a2, ab2, ac2, ⟨u2, an2, am2⟩, z2, ah2, ar2⟩ := s_app z1 (lit_op (h := a1) (X := fun _ => False)).2.2.2.2.1 ⟨fun z => z, fun z => z⟩ (by decide)
        have ux2 : Sm (fun x => hN h7 ≤ x) a1 a2 := u2.mo (fun i hi z => by show hN h7 ≤ i; omega)
        have u12 : Sm noW h7 a2 := u1.nw ux2
        have ys : StrR a2 (fun x => x < hN h7) (.ref (hN h6)) (tb (ownL k) ++ opT k ++ tc (ownL k + 1)) := (ok.2.mo (fun i hi _ => hi)).keep u12 (fun _ _ z => z)
        have zb2 : hN h7 ≤ ab2 := by
          rcases ah2 with e | e <;> omega
        obtain ⟨a3, ab3, ac3, ⟨u3, an3, am3⟩, z3, ah3, ar3⟩ := s_app z2 ys ⟨fun z => Nat.lt_irrefl _ z, fun z => by have : ab2 < hN h7 := z; omega⟩ (by simp only [List.length_append, List.length_cons, List.length_nil]; omega)
        have ux3 : Sm (fun x => hN h7 ≤ x) a2 a3 := u3.mo (fun i hi z => by show hN h7 ≤ i; omega)
        obtain ⟨a4, ab4, ac4, ⟨u4, an4, am4⟩, z4, ah4, ar4⟩ := s_app z3 (lit_op (h := a3) (X := fun _ => False)).2.2.2.2.2.1 ⟨fun z => z, fun z => z⟩ (by simp only [List.length_append, List.length_cons, List.length_nil]; omega)
        have zb3 : hN h7 ≤ ab3 := by
          have := u12.1
          rcases ah3 with e | e <;> omega
        have ux4 : Sm (fun x => hN h7 ≤ x) a3 a4 := u4.mo (fun i hi z => by show hN h7 ≤ i; omega)
        have u14 : Sm noW h7 a4 := (u12.nw ux3).nw ux4
        obtain ⟨F2, hF2, ar5⟩ := s_toStr z4
        have ok2 := ts_ok (h := a4) hF2 z4.2.2.2.2.2
        have etx : opTx k tb tc lev = [] ++ [40] ++ (tb (ownL k) ++ opT k ++ tc (ownL k + 1)) ++ [41] := if_pos hlv
        rw [etx]
        have v1 : hk a1 (hN h7) = 21 := z1.1.1
        have v2 : hk a2 (hN h7) = 21 := z2.1.1
        have v3 : hk a3 (hN h7) = 21 := z3.1.1
        have v4 : hk a4 (hN h7) = 21 := z4.1.1
        have l7 := t7.1
        have l74 := u14.1
        refine ⟨_, _, ⟨(t7.tr u14).tr ok2.1.1, by have := ok2.1.2.1; have := ok.1.2.1; omega, by have := ok2.1.2.2; have := ok.1.2.2; omega⟩, ok2.2.mo (fun i hi z => by show hN h ≤ i; have : hN a4 ≤ i := z; omega), fun e K he => ?_⟩
        obtain ⟨d, rfl⟩ : ∃ d, e = d + 6 + 1 := ⟨e - 7, by omega⟩
        have ar1' := fun K => ar1 (d + 4) K
        rw [mid d K (by omega)]
        simp only [i99_140, i99_141, i99_142, i99_145, i99_148, i99_149, i99_152, i99_154, i99_157, i99_158, i99_161, i99_163, i99_166, i99_169, i99_173, nl_i, nl_r, nl_0, nl_j, nb0, nb1, nbI, orv_s, konN_v, konN_n, konN_e, true_and, and_true, and_self, if_true, if_false, ite_true, ite_false, isR_ref, true_or, or_true, isR_null, rg10, rg11, rg12, rg13, rg14, rg15, rg16, rh13, rh14, rh15, rh16, bI_T, bI_F, bI_Fb, i1z, Bool.false_eq_true, nlv, ak1, ar1', v1, ar2, v2, ar3, v3, ar4, v4, ar5]
      · have nlv : (nI lev ≤ nI (ownL k)) = True := eq_true (by rw [nI_leI (by omega) (by omega)]; omega)
        have etx : opTx k tb tc lev = tb (ownL k) ++ opT k ++ tc (ownL k + 1) := if_neg hlv
        rw [etx]
        have l16 := t6.1
        refine ⟨h7, .ref (hN h6), ⟨t7, by have := ok.1.2.1; omega, by have := ok.1.2.2; omega⟩, ok.2.mo (fun i hi z => by show hN h ≤ i; have : hN h6 ≤ i := z; omega), fun e K he => ?_⟩
        obtain ⟨d, rfl⟩ : ∃ d, e = d + 6 + 1 := ⟨e - 7, by omega⟩
        rw [mid d K (by omega)]
        simp only [i99_140, i99_141, i99_142, i99_172, i99_173, nl_i, nl_r, nl_0, nl_j, nb0, nb1, nbI, orv_s, konN_v, konN_n, konN_e, true_and, and_true, and_self, if_true, if_false, ite_true, ite_false, isR_ref, true_or, or_true, isR_null, rg10, rg11, rg12, rg13, rg14, rg15, rg16, rh13, rh14, rh15, rh16, bI_T, bI_F, bI_Fb, i1z, Bool.false_eq_true, nlv]
end TXT
