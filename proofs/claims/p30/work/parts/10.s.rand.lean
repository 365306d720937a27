/-! RANDOM NUMBERS, RANDOM TREES -/
def RN (h : AH) (r : Nat) : Prop := (hk h r = 9 ∧ r < hN h) ∧ ∃ sd, hF h r 0 = .int sd
theorem RN.keep {h h' : AH} {W : Nat → Prop} {r : Nat} (x : RN h r) (hs : Sm W h h') (hw : ¬ W r) : RN h' r := by
  obtain ⟨⟨x1, x2⟩, sd, x3⟩ := x
  exact ⟨⟨(hs.k x2).trans x1, Nat.lt_of_lt_of_le x2 hs.1⟩, sd, (hs.F x2 hw).trans x3⟩
theorem sh16 (x : Int32) : ∃ v, v < 65536 ∧ (x.toUInt32 >>> ((16 : Int32).toUInt32 &&& Int32.toUInt32 31)).toInt32 = nI v := by
  have e : ((16 : Int32).toUInt32 &&& Int32.toUInt32 31) = 16 := by decide
  rw [e]
  refine ⟨(x.toUInt32 >>> 16).toNat, ?_, ?_⟩
  · rw [UInt32.toNat_shiftRight]
    have h1 : x.toUInt32.toNat < 2 ^ 32 := UInt32.toNat_lt _
    have h2 : ((16 : UInt32).toNat % 32) = 16 := by decide
    rw [h2, Nat.shiftRight_eq_div_pow]
    omega
  · generalize hw : x.toUInt32 >>> 16 = w
    have hlt : w.toNat < 65536 := by
      rw [← hw, UInt32.toNat_shiftRight]
      have h1 : x.toUInt32.toNat < 2 ^ 32 := UInt32.toNat_lt _
      have h2 : ((16 : UInt32).toNat % 32) = 16 := by decide
      rw [h2, Nat.shiftRight_eq_div_pow]
      omega
    refine Int32.toInt_inj.mp ?_
    rw [nI_toInt (by omega)]
    show w.toInt32.toBitVec.toInt = _
    rw [show w.toInt32.toBitVec = w.toBitVec from rfl, BitVec.toInt_eq_toNat_of_lt (by rw [UInt32.toNat_toBitVec]; omega), UInt32.toNat_toBitVec]
theorem rem_nI {v m : Nat} (hv : v < 65536) (hm : 1 ≤ m) (hm2 : m < 2 ^ 31) : nI v - nI v / nI m * nI m = nI (v % m) := by
  have e1 : nI v / nI m = nI (v / m) := by
    refine Int32.toInt_inj.mp ?_
    have x := (i32_div (x := nI v) (y := nI m) (by rw [nI_toInt (by omega)]; omega) (by rw [nI_toInt hm2]; omega)).1
    have : v / m ≤ v := Nat.div_le_self _ _
    rw [x, nI_toInt (by omega), nI_toInt hm2, nI_toInt (by omega)]
    rfl
  have e2 : v / m * m ≤ v := Nat.div_mul_le_self _ _
  have e3 : v / m ≤ v := Nat.div_le_self _ _
  have e4 : (nI (v / m) * nI m) = nI (v / m * m) := by
    refine Int32.toInt_inj.mp ?_
    have q : ((v / m : Nat) : Int) * (m : Int) = ((v / m * m : Nat) : Int) := by rw [Int.natCast_mul]
    rw [i32_mul (by rw [nI_toInt (by omega), nI_toInt hm2, q]; omega) (by rw [nI_toInt (by omega), nI_toInt hm2, q]; omega), nI_toInt (by omega), nI_toInt hm2, nI_toInt (by omega), q]
  have e5 : v % m = v - v / m * m := by
    have := Nat.div_add_mod v m
    rw [Nat.mul_comm] at this
    omega
  rw [e1, e4, e5]
  exact nI_sub e2
section RND
variable {d dp : Nat} {h h0 : AH} {B : Nat → Prop} {K : AO → AH → Prop} {r m : Nat}
theorem s_below (x : RN h r) (hm : 1 ≤ m) (hm2 : m < 2 ^ 31) : ∃ k h', k < m ∧ (Sm (fun i => i = r) h h' ∧ hN h' = hN h ∧ hS h' = hS h) ∧ RN h' r ∧ ∀ d K, EvM d 102 [.ref r, .int (nI m)] h K = K (.inl (some (.int (nI k)))) h' := by
  obtain ⟨⟨x1, x2⟩, sd, x3⟩ := x
  obtain ⟨v, hv, ev⟩ := sh16 (1103515245 * sd + 12345)
  refine ⟨v % m, wF h r 0 (.int (1103515245 * sd + 12345)), Nat.mod_lt _ hm, ⟨Sm.wF rfl, rfl, rfl⟩, ⟨⟨x1, x2⟩, _, wF_eq⟩, fun d K => ?_⟩
  have nm : (nI m = 0) = False := eq_false (fun y => by have := nI_inj hm2 (by omega) (y.trans nI_0.symm); omega)
  simp only [in102, i102_0, i102_1, i102_3, i102_4, i102_7, i102_8, i102_11, i102_12, i102_15, i102_16, i102_19, i102_21, i102_22, i102_23, i102_24, nl_i, nl_r, nl_0, nl_j, nb0, nb1, nbI, orv_s, konN_v, konN_n, konN_e, true_and, and_true, and_self, if_true, if_false, ite_true, ite_false, isR_ref, true_or, or_true, isR_null, rg10, rg11, rg12, rg13, rg14, rg15, rg16, rh13, rh14, rh15, rh16, bI_T, bI_F, bI_Fb, i1z, Bool.false_eq_true, x1, x3, k_wF, wF_eq, ev, nm, not_false_eq_true, rem_nI hv hm hm2]
theorem NodeR.moB {B' : Nat → Prop} {g : AH} : ∀ {d a tx L V}, NodeR g B d a tx L V → (∀ i, i < hN g → B i → B' i) → NodeR g B' d a tx L V
  | 0, _, _, _, _, h, hb => ⟨⟨⟨hb _ h.1.1.2 h.1.1.1, h.1.1.2⟩, h.1.2⟩, h.2⟩
  | d + 1, _, _, _, _, h, hb => by
    refine ⟨⟨⟨hb _ h.1.1.2 h.1.1.1, h.1.1.2⟩, h.1.2⟩, ?_⟩
    rcases h.2 with h2 | ⟨k, b, c, tb, tc, Lb, Lc, Vb, Vc, h1, h2, h5, h6, h7⟩
    · exact Or.inl h2
    · exact Or.inr ⟨k, b, c, tb, tc, Lb, Lc, Vb, Vc, h1, h2, h5.moB hb, h6.moB hb, h7⟩
theorem nI_nz0 {k : Nat} (h : ¬ k = 0) (hk : k < 2 ^ 31) : (nI k = 0) = False := eq_false (fun y => h (nI_inj hk (by omega) (y.trans nI_0.symm)))
/-- the beginning of a random node: its kind below M, its number -/
theorem s_node0 (x : RN h r) {M : Nat} (hM : (dp = 0 ∧ M = 2) ∨ (0 < dp ∧ M = 6)) (hdp : dp ≤ 2) : ∃ h' k j, (Sm (fun i => i = r) h h' ∧ hN h' = hN h + 1 ∧ hS h' = hS h + 4) ∧ RN h' r ∧ k < M ∧ (hk h' (hN h) = 8 ∧ hF h' (hN h) 0 = .int (nI k) ∧ hF h' (hN h) 1 = .int (nI j)) ∧ ((k = 0 ∧ j < 300) ∨ (0 < k ∧ j < 3)) ∧
    ∀ d K, Ev (d + 2) 98 0 [some (.ref r), some (.int (nI dp)), none] [] h K = Ev (d + 2) 98 69 [some (.ref r), some (.int (nI dp)), some (.ref (hN h))] [] h' K := by
  obtain ⟨N, hN0⟩ : ∃ N, N = hN h := ⟨_, rfl⟩
  have rN : ¬ r = N := by have := x.1.2; omega
  obtain ⟨g0, hg0⟩ : ∃ g, g = alO h 8 4 (dfl 7) := ⟨_, rfl⟩
  have s0 : Sm (fun i => i = r) h g0 := by rw [hg0]; exact Sm.alO
  have k0 : hk g0 N = 8 := by rw [hg0, hN0]; exact alO_k
  have n0 : hN g0 = N + 1 := by rw [hg0, hN0]; rfl
  have m0 : hS g0 = hS h + 4 := by rw [hg0]; rfl
  have x0 : RN g0 r := x.keep (W := noW) (by rw [hg0]; exact Sm.alO) (fun z => z)
  obtain ⟨k, g1, hk1, ⟨s1, n1, m1⟩, x1, r1⟩ := s_below x0 (m := M) (by omega) (by omega)
  have k1 : hk g1 N = 8 := (s1.k (by omega)).trans k0
  obtain ⟨g2, hg2⟩ : ∃ g, g = wF g1 N 0 (.int (nI k)) := ⟨_, rfl⟩
  have s2 : Sm (fun i => i = N) g1 g2 := by rw [hg2]; exact Sm.wF rfl
  have k2 : hk g2 N = 8 := (s2.k (by omega)).trans k1
  have f2 : hF g2 N 0 = .int (nI k) := by rw [hg2]; exact wF_eq
  have n2 : hN g2 = N + 1 := by rw [hg2]; exact n1.trans n0
  have m2 : hS g2 = hS h + 4 := by rw [hg2]; exact m1.trans m0
  have x2 : RN g2 r := x1.keep s2 rN
  have s02 : Sm (fun i => i = r ∨ i = N) h g2 := (s0.mo (fun _ _ z => Or.inl z)).tr ((s1.mo (fun _ _ z => Or.inl z)).tr (s2.mo (fun _ _ z => Or.inr z)))
  have kr0 : hk g0 r = 9 := x0.1.1
  have kr2 : hk g2 r = 9 := x2.1.1
  have q2 : ∀ v, hk (wF g1 N 0 v) N = 8 := fun v => k1
  have key : ∀ d K, Ev (d + 2) 98 0 [some (.ref r), some (.int (nI dp)), none] [] h K = Ev (d + 2) 98 30 [some (.ref r), some (.int (nI dp)), some (.ref N)] [] g2 K := fun d K => by
    have kN : hN h = N := hN0.symm
    rcases hM with ⟨rfl, rfl⟩ | ⟨hp, rfl⟩
    · rw [show nI 2 = (2 : Int32) from rfl] at r1
      simp only [i98_0, i98_3, i98_4, i98_7, i98_8, i98_9, i98_10, i98_13, i98_14, i98_15, i98_18, i98_21, i98_22, i98_24, i98_27, in97, i97_0, i97_1, i97_4, nl_i, nl_r, nl_0, nl_j, nb0, nb1, nbI, orv_s, konN_v, konN_n, konN_e, true_and, and_true, and_self, if_true, if_false, ite_true, ite_false, isR_ref, true_or, or_true, isR_null, rg10, rg11, rg12, rg13, rg14, rg15, rg16, rh13, rh14, rh15, rh16, bI_T, bI_F, bI_Fb, i1z, Bool.false_eq_true, kN, ← hg0, k0, nI_0, kr0, r1, k1, ← hg2]
    · rw [show nI 6 = (6 : Int32) from rfl] at r1
      simp only [i98_0, i98_3, i98_4, i98_7, i98_8, i98_9, i98_10, i98_13, i98_14, i98_15, i98_18, i98_21, i98_22, i98_24, i98_27, in97, i97_0, i97_1, i97_4, nl_i, nl_r, nl_0, nl_j, nb0, nb1, nbI, orv_s, konN_v, konN_n, konN_e, true_and, and_true, and_self, if_true, if_false, ite_true, ite_false, isR_ref, true_or, or_true, isR_null, rg10, rg11, rg12, rg13, rg14, rg15, rg16, rh13, rh14, rh15, rh16, bI_T, bI_F, bI_Fb, i1z, Bool.false_eq_true, kN, ← hg0, k0, nI_nz0 (show ¬ dp = 0 by omega) (show dp < 2 ^ 31 by omega), kr0, r1, k1, ← hg2]
  by_cases hk0 : k = 0
  · subst hk0
    obtain ⟨t, g3, ht, ⟨s3, n3, m3⟩, x3, r3⟩ := s_below x2 (m := 2) (by omega) (by omega)
    rw [show nI 2 = (2 : Int32) from rfl] at r3
    have kr3 : hk g3 r = 9 := x3.1.1
    have two : ∃ j g4, j < 300 ∧ (Sm (fun i => i = r) g3 g4 ∧ hN g4 = hN g3 ∧ hS g4 = hS g3) ∧ RN g4 r ∧ ∀ d K, Ev (d + 2) 98 30 [some (.ref r), some (.int (nI dp)), some (.ref N)] [] g2 K = Ev (d + 2) 98 66 [some (.ref r), some (.int (nI dp)), some (.ref N)] [.int (nI j), .ref N] g4 K := by
      by_cases ht0 : t = 0
      · subst ht0
        obtain ⟨j, g4, hj, y1, y2, y3⟩ := s_below x3 (m := 300) (by omega) (by omega)
        rw [show nI 300 = (300 : Int32) from rfl] at y3
        refine ⟨j, g4, hj, y1, y2, fun d K => ?_⟩
        simp only [i98_30, i98_31, i98_32, i98_35, i98_38, i98_39, i98_40, i98_41, i98_44, i98_47, i98_50, i98_53, i98_55, i98_58, nl_i, nl_r, nl_0, nl_j, nb0, nb1, nbI, orv_s, konN_v, konN_n, konN_e, true_and, and_true, and_self, if_true, if_false, ite_true, ite_false, isR_ref, true_or, or_true, isR_null, rg10, rg11, rg12, rg13, rg14, rg15, rg16, rh13, rh14, rh15, rh16, bI_T, bI_F, bI_Fb, i1z, Bool.false_eq_true, k2, f2, nI_0, kr2, r3, kr3, y3]
      · obtain ⟨j, g4, hj, y1, y2, y3⟩ := s_below x3 (m := 20) (by omega) (by omega)
        rw [show nI 20 = (20 : Int32) from rfl] at y3
        refine ⟨j, g4, by omega, y1, y2, fun d K => ?_⟩
        simp only [i98_30, i98_31, i98_32, i98_35, i98_38, i98_39, i98_40, i98_41, i98_44, i98_47, i98_50, i98_53, i98_55, i98_58, nl_i, nl_r, nl_0, nl_j, nb0, nb1, nbI, orv_s, konN_v, konN_n, konN_e, true_and, and_true, and_self, if_true, if_false, ite_true, ite_false, isR_ref, true_or, or_true, isR_null, rg10, rg11, rg12, rg13, rg14, rg15, rg16, rh13, rh14, rh15, rh16, bI_T, bI_F, bI_Fb, i1z, Bool.false_eq_true, k2, f2, nI_0, nI_nz0 ht0 (show t < 2 ^ 31 by omega), kr2, r3, kr3, y3]
    obtain ⟨j, g4, hj, ⟨s4, n4, m4⟩, x4, r4⟩ := two
    have s24 : Sm (fun i => i = r) g2 g4 := s3.tr s4
    have k4 : hk g4 N = 8 := (s24.k (by omega)).trans k2
    have s5 : Sm (fun i => i = N) g4 (wF g4 N 1 (.int (nI j))) := Sm.wF rfl
    rw [← hN0]
    refine ⟨wF g4 N 1 (.int (nI j)), 0, j, ⟨(s02.tr ((s24.mo (fun _ _ z => Or.inl z)).tr (s5.mo (fun _ _ z => Or.inr z)))).mo (fun i hi z => by omega), by show hN g4 = _; omega, by show hS g4 = _; omega⟩, x4.keep s5 rN, hk1, ⟨k4, ?_, wF_eq⟩, Or.inl ⟨rfl, hj⟩, fun d K => ?_⟩
    · rw [wF_nk (by omega), s24.F (by omega) (fun z => rN z.symm)]
      exact f2
    · rw [key, r4]
      simp only [i98_66, nl_i, nl_r, nl_0, nl_j, nb0, nb1, nbI, orv_s, konN_v, konN_n, konN_e, true_and, and_true, and_self, if_true, if_false, ite_true, ite_false, isR_ref, true_or, or_true, isR_null, rg10, rg11, rg12, rg13, rg14, rg15, rg16, rh13, rh14, rh15, rh16, bI_T, bI_F, bI_Fb, i1z, Bool.false_eq_true, k4]
  · obtain ⟨j, g4, hj, ⟨s4, n4, m4⟩, x4, r4⟩ := s_below x2 (m := 3) (by omega) (by omega)
    rw [show nI 3 = (3 : Int32) from rfl] at r4
    have k4 : hk g4 N = 8 := (s4.k (by omega)).trans k2
    have s5 : Sm (fun i => i = N) g4 (wF g4 N 1 (.int (nI j))) := Sm.wF rfl
    rw [← hN0]
    refine ⟨wF g4 N 1 (.int (nI j)), k, j, ⟨(s02.tr ((s4.mo (fun _ _ z => Or.inl z)).tr (s5.mo (fun _ _ z => Or.inr z)))).mo (fun i hi z => by omega), by show hN g4 = _; omega, by show hS g4 = _; omega⟩, x4.keep s5 rN, hk1, ⟨k4, ?_, wF_eq⟩, Or.inr ⟨by omega, hj⟩, fun d K => ?_⟩
    · rw [wF_nk (by omega), s4.F (by omega) (fun z => rN z.symm)]
      exact f2
    · rw [key]
      simp only [i98_30, i98_31, i98_32, i98_35, i98_38, i98_39, i98_40, i98_41, i98_44, i98_47, i98_50, i98_53, i98_55, i98_58, i98_61, i98_62, i98_63, i98_66, nl_i, nl_r, nl_0, nl_j, nb0, nb1, nbI, orv_s, konN_v, konN_n, konN_e, true_and, and_true, and_self, if_true, if_false, ite_true, ite_false, isR_ref, true_or, or_true, isR_null, rg10, rg11, rg12, rg13, rg14, rg15, rg16, rh13, rh14, rh15, rh16, bI_T, bI_F, bI_Fb, i1z, Bool.false_eq_true, k2, f2, nI_nz0 hk0 (show k < 2 ^ 31 by omega), kr2, r4, k4]
theorem s_random : ∀ (n : Nat) (h : AH), n ≤ 2 → RN h r → ∃ h' a tx L V, (Sm (fun i => i = r) h h' ∧ hN h' + 1 ≤ hN h + 2 ^ (n + 1) ∧ hS h' + 4 ≤ hS h + 4 * 2 ^ (n + 1)) ∧ RN h' r ∧ NodeR h' (fun i => hN h ≤ i) n a tx L V ∧ ∀ e K, n + 2 ≤ e → EvM e 98 [.ref r, .int (nI n)] h K = K (.inl (some (.ref a))) h'
  | 0, h, hn, x => by
    obtain ⟨h1, k, j, ⟨s1, n1, m1⟩, x1, hk1, ⟨k8, f0, f1⟩, hj, r1⟩ := s_node0 x (dp := 0) (M := 2) (Or.inl ⟨rfl, rfl⟩) (by omega)
    have lf : ∃ tx L V, LeafR h1 (hN h) tx L V := by
      rcases hj with ⟨rfl, hj⟩ | ⟨hk0, hj⟩
      · exact ⟨_, _, _, Or.inl ⟨f0, j, hj, f1, rfl, rfl, rfl⟩⟩
      · obtain rfl : k = 1 := by omega
        exact ⟨_, _, _, Or.inr ⟨f0, j, hj, f1, rfl, rfl, rfl⟩⟩
    obtain ⟨tx, L, V, lf⟩ := lf
    refine ⟨h1, hN h, tx, L, V, ⟨s1, by omega, by omega⟩, x1, ⟨⟨⟨Nat.le_refl _, by omega⟩, k8⟩, lf⟩, fun e K he => ?_⟩
    obtain ⟨d, rfl⟩ : ∃ d, e = d + 2 := ⟨e - 2, by omega⟩
    have kk : (nI k ≤ 1) = True := eq_true (by rw [show (1 : Int32) = nI 1 from rfl, nI_leI (by omega) (by omega)]; omega)
    rw [in98, r1]
    simp only [i98_69, i98_70, i98_73, i98_74, i98_77, i98_78, i98_79, i98_80, i98_81, i98_82, i98_85, i98_88, i98_89, i98_90, i98_91, i98_92, i98_93, i98_96, i98_99, i98_100, nl_i, nl_r, nl_0, nl_j, nb0, nb1, nbI, orv_s, konN_v, konN_n, konN_e, true_and, and_true, and_self, if_true, if_false, ite_true, ite_false, isR_ref, true_or, or_true, isR_null, rg10, rg11, rg12, rg13, rg14, rg15, rg16, rh13, rh14, rh15, rh16, bI_T, bI_F, bI_Fb, i1z, Bool.false_eq_true, k8, f0, kk]
  | n + 1, h, hn, x => by
    have pw : 2 ^ (n + 1 + 1) = 2 * 2 ^ (n + 1) := by rw [Nat.pow_succ]; omega
    have p1 : 1 ≤ 2 ^ n := Nat.one_le_two_pow
    have p2 : 2 ^ (n + 1) = 2 * 2 ^ n := by rw [Nat.pow_succ]; omega
    obtain ⟨h1, k, j, ⟨s1, n1, m1⟩, x1, hk1, ⟨k8, f0, f1⟩, hj, r1⟩ := s_node0 x (dp := n + 1) (M := 6) (Or.inr ⟨by omega, rfl⟩) (by omega)
    by_cases hk2 : k < 2
    · have lf : ∃ tx L V, LeafR h1 (hN h) tx L V := by
        rcases hj with ⟨rfl, hj⟩ | ⟨hk0, hj⟩
        · exact ⟨_, _, _, Or.inl ⟨f0, j, hj, f1, rfl, rfl, rfl⟩⟩
        · obtain rfl : k = 1 := by omega
          exact ⟨_, _, _, Or.inr ⟨f0, j, hj, f1, rfl, rfl, rfl⟩⟩
      obtain ⟨tx, L, V, lf⟩ := lf
      refine ⟨h1, hN h, tx, L, V, ⟨s1, by omega, by omega⟩, x1, ⟨⟨⟨Nat.le_refl _, by omega⟩, k8⟩, Or.inl lf⟩, fun e K he => ?_⟩
      obtain ⟨d, rfl⟩ : ∃ d, e = d + 2 := ⟨e - 2, by omega⟩
      have kk : (nI k ≤ 1) = True := eq_true (by rw [show (1 : Int32) = nI 1 from rfl, nI_leI (by omega) (by omega)]; omega)
      rw [in98, r1]
      simp only [i98_69, i98_70, i98_73, i98_74, i98_77, i98_78, i98_79, i98_80, i98_81, i98_82, i98_85, i98_88, i98_89, i98_90, i98_91, i98_92, i98_93, i98_96, i98_99, i98_100, nl_i, nl_r, nl_0, nl_j, nb0, nb1, nbI, orv_s, konN_v, konN_n, konN_e, true_and, and_true, and_self, if_true, if_false, ite_true, ite_false, isR_ref, true_or, or_true, isR_null, rg10, rg11, rg12, rg13, rg14, rg15, rg16, rh13, rh14, rh15, rh16, bI_T, bI_F, bI_Fb, i1z, Bool.false_eq_true, k8, f0, kk]
    · have kk : (nI k ≤ 1) = False := eq_false (by rw [show (1 : Int32) = nI 1 from rfl, nI_leI (by omega) (by omega)]; omega)
      have rN : ¬ r = hN h := by have := x.1.2; omega
      obtain ⟨h2, b, tb, Lb, Vb, ⟨s2, n2, m2⟩, x2, y2, r2⟩ := s_random n h1 (by omega) x1
      have t2 : Sm (fun i => i = hN h) h2 (wF h2 (hN h) 2 (.ref b)) := Sm.wF rfl
      obtain ⟨h3, c, tc, Lc, Vc, ⟨s3, n3, m3⟩, x3, y3, r3⟩ := s_random n (wF h2 (hN h) 2 (.ref b)) (by omega) (x2.keep t2 rN)
      have t3 : Sm (fun i => i = hN h) h3 (wF h3 (hN h) 3 (.ref c)) := Sm.wF rfl
      have n3' : hN h3 + 1 ≤ hN h2 + 2 ^ (n + 1) := n3
      have m3' : hS h3 + 4 ≤ hS h2 + 4 * 2 ^ (n + 1) := m3
      have l12 := s2.1
      have l23 : hN h2 ≤ hN h3 := s3.1
      have k82 : hk h2 (hN h) = 8 := (s2.k (by omega)).trans k8
      have k83 : hk h3 (hN h) = 8 := (s3.k (by show hN h < hN h2; omega)).trans k82
      have all : Sm (fun i => i = r ∨ i = hN h) h1 (wF h3 (hN h) 3 (.ref c)) := (s2.mo (fun _ _ z => Or.inl z)).tr ((t2.mo (fun _ _ z => Or.inr z)).tr ((s3.mo (fun _ _ z => Or.inl z)).tr (t3.mo (fun _ _ z => Or.inr z))))
      have f0' : hF (wF h3 (hN h) 3 (.ref c)) (hN h) 0 = .int (nI k) := by
        rw [wF_nk (by omega), s3.F (by show hN h < hN h2; omega) (fun z => rN z.symm), wF_nk (by omega), s2.F (by omega) (fun z => rN z.symm)]
        exact f0
      have f2' : hF (wF h3 (hN h) 3 (.ref c)) (hN h) 2 = .ref b := by
        rw [wF_nk (by omega), s3.F (by show hN h < hN h2; omega) (fun z => rN z.symm), wF_eq]
      have z2 : NodeR (wF h3 (hN h) 3 (.ref c)) (fun i => hN h1 ≤ i) n b tb Lb Vb := NodeR.keep (W := fun i => i = r ∨ i = hN h) ((t2.mo (fun _ _ z => Or.inr z)).tr ((s3.mo (fun _ _ z => Or.inl z)).tr (t3.mo (fun _ _ z => Or.inr z)))) (fun i hi z => by have := x.1.2; omega) y2
      have z3 : NodeR (wF h3 (hN h) 3 (.ref c)) (fun i => hN h2 ≤ i) n c tc Lc Vc := NodeR.keep t3 (fun i hi z => by have : hN h2 ≤ i := hi; omega) y3
      refine ⟨wF h3 (hN h) 3 (.ref c), hN h, opTx k tb tc, Lb ++ (Lc ++ [opC k]), fun th z gp => resC (opC k) (Vb th z gp) (Vc th z gp), ⟨(s1.mo (V := fun i => i = r ∨ i = hN h) (fun _ _ z => Or.inl z)).tr all |>.mo (fun i hi z => by omega), by show hN h3 + 1 ≤ _; omega, by show hS h3 + 4 ≤ _; omega⟩, x3.keep t3 rN, ⟨⟨⟨Nat.le_refl _, by show hN h < hN h3; omega⟩, k83⟩, Or.inr ⟨k, b, c, tb, tc, Lb, Lc, Vb, Vc, ⟨by omega, hk1⟩, ⟨f0', f2', wF_eq⟩, z2.moB (fun i hi z => by omega), z3.moB (fun i hi z => by omega), rfl, rfl, rfl⟩⟩, fun e K he => ?_⟩
      obtain ⟨d, rfl⟩ : ∃ d, e = d + 2 := ⟨e - 2, by omega⟩
      have r2' := fun K => r2 (d + 1) K (by omega)
      have r3' := fun K => r3 (d + 1) K (by omega)
      have en : nI (n + 1) - 1 = nI n := nI_pred n
      rw [in98, r1]
      simp only [i98_69, i98_70, i98_73, i98_74, i98_77, i98_78, i98_79, i98_80, i98_81, i98_82, i98_85, i98_88, i98_89, i98_90, i98_91, i98_92, i98_93, i98_96, i98_99, i98_100, nl_i, nl_r, nl_0, nl_j, nb0, nb1, nbI, orv_s, konN_v, konN_n, konN_e, true_and, and_true, and_self, if_true, if_false, ite_true, ite_false, isR_ref, true_or, or_true, isR_null, rg10, rg11, rg12, rg13, rg14, rg15, rg16, rh13, rh14, rh15, rh16, bI_T, bI_F, bI_Fb, i1z, Bool.false_eq_true, k8, f0, kk, en, r2', k82, r3', k83]
end RND
