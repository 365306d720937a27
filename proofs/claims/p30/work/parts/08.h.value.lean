/-! THE VALUE OF A HEAT EXPRESSION, as the class computes it -/
theorem zn_2 : Int32.toNatClampNeg 2 = 2 := by decide
theorem zn_11 : Int32.toNatClampNeg 11 = 11 := by decide
theorem nI_m1 (n : Nat) : nI (n + 1) + -1 = nI n := by
  have h := nI_pred n
  rw [Int32.sub_eq_add_neg] at h
  exact h
def vOf (st th z g : Int32) : Int32 := if st < 0 then (if st = -5 then th else if st = -6 then z else g) else st
def vStep (pg : Nat → Int32) (th z g : Int32) (k : Nat) (v : Nat × (Nat → Int32)) : Nat × (Nat → Int32) :=
  if pg k < 0 ∧ -4 ≤ pg k then (if 2 ≤ v.1 then (v.1 - 1, upd v.2 (v.1 - 2) (resC (pg k) (v.2 (v.1 - 2)) (v.2 (v.1 - 1)))) else v)
  else if v.1 < 11 then (v.1 + 1, upd v.2 v.1 (vOf (pg k) th z g)) else v
def vRun (pg : Nat → Int32) (n : Nat) (th z g : Int32) (stk : Nat → Int32) : Nat → Int32 := (itn (vStep pg th z g) 0 n (0, stk)).2
theorem vs_push {pg stk : Nat → Int32} {th z g : Int32} {k c : Nat} (h : ¬ (pg k < 0 ∧ -4 ≤ pg k)) (hc : c < 11) : vStep pg th z g k (c, stk) = (c + 1, upd stk c (vOf (pg k) th z g)) := (if_neg h).trans (if_pos hc)
theorem vs_full {pg stk : Nat → Int32} {th z g : Int32} {k c : Nat} (h : ¬ (pg k < 0 ∧ -4 ≤ pg k)) (hc : ¬ c < 11) : vStep pg th z g k (c, stk) = (c, stk) := (if_neg h).trans (if_neg hc)
theorem vs_skip {pg stk : Nat → Int32} {th z g : Int32} {k c : Nat} (h : pg k < 0 ∧ -4 ≤ pg k) (hc : ¬ 2 ≤ c) : vStep pg th z g k (c, stk) = (c, stk) := (if_pos h).trans (if_neg hc)
theorem vs_op {pg stk : Nat → Int32} {th z g : Int32} {k e : Nat} (h : pg k < 0 ∧ -4 ≤ pg k) : vStep pg th z g k (e + 2, stk) = (e + 1, upd stk e (resC (pg k) (stk e) (stk (e + 1)))) := (if_pos h).trans (if_pos (by show 2 ≤ e + 2; omega))
section VF
variable {d : Nat} {h : AH} {T : Nat → Bool} {U S A : Nat → Nat → Int32} {J : Nat → Nat → Int64} {G : Nat → Nat} {K : AO → AH → Prop} {b s t n : Nat} {th z g : Int32} {q pg : Nat → Int32} {sa : Nat → Nat → Int32}
theorem s_vf_push (hs : SUp h T s t q sa n pg) {c k : Nat} {st : Int32} (hc : c ≤ 11) : Ev (d + 1) 1 79 [some (.ref t), some (.int th), some (.int z), some (.int g), some (.int (nI c)), some (.int (nI k)), some (.int st)] [] (MH h T U S A J G) K =
    if c < 11 then Ev (d + 1) 1 6 [some (.ref t), some (.int th), some (.int z), some (.int g), some (.int (nI (c + 1))), some (.int (nI (k + 1))), some (.int st)] [] (MH h T (upf U (t + 2) (upd (U (t + 2)) c (vOf st th z g))) S A J G) K
    else Ev (d + 1) 1 6 [some (.ref t), some (.int th), some (.int z), some (.int g), some (.int (nI c)), some (.int (nI (k + 1))), some (.int st)] [] (MH h T U S A J G) K := by
  by_cases hc2 : c < 11
  · simp only [in1, i1_0, i1_1, i1_3, i1_4, i1_8, i1_9, i1_12, i1_13, i1_16, i1_17, i1_20, i1_22, i1_23, i1_25, i1_27, i1_30, i1_32, i1_34, i1_37, i1_39, i1_40, i1_43, i1_46, i1_47, i1_50, i1_52, i1_53, i1_54, i1_56, i1_57, i1_60, i1_62, i1_63, i1_64, i1_65, i1_66, i1_69, i1_71, i1_72, i1_75, i1_76, i1_79, i1_81, i1_83, i1_86, i1_87, i1_90, i1_92, i1_94, i1_97, i1_99, i1_102, i1_104, i1_106, i1_109, i1_110, i1_113, i1_115, i1_117, i1_120, i1_121, i1_124, i1_125, i1_126, i1_129, i1_132, i1_135, i1_136, i1_139, i1_140, i1_141, nl_i, nl_r, nl_0, nl_j, nb0, nb1, nbI, orv_s, konN_v, konN_n, konN_e, true_and, and_true, and_self, if_true, if_false, ite_true, ite_false, isR_ref, true_or, or_true, isR_null, rg10, rg11, rg12, rg13, rg14, rg15, rg16, rh13, rh14, rh15, rh16, su_tk hs, su_t1 hs, su_sk hs, su_sl hs, su_sa hs, su_sw hs, nI_le_zn (show c < 2 ^ 31 by omega), zn_11, hc2, not_true, inbT hc2 (by omega), nI_clamp (show c < 2 ^ 31 by omega), ← nI_succ]
    unfold vOf
    repeat' split
    all_goals rfl
  · simp only [in1, i1_0, i1_1, i1_3, i1_4, i1_8, i1_9, i1_12, i1_13, i1_16, i1_17, i1_20, i1_22, i1_23, i1_25, i1_27, i1_30, i1_32, i1_34, i1_37, i1_39, i1_40, i1_43, i1_46, i1_47, i1_50, i1_52, i1_53, i1_54, i1_56, i1_57, i1_60, i1_62, i1_63, i1_64, i1_65, i1_66, i1_69, i1_71, i1_72, i1_75, i1_76, i1_79, i1_81, i1_83, i1_86, i1_87, i1_90, i1_92, i1_94, i1_97, i1_99, i1_102, i1_104, i1_106, i1_109, i1_110, i1_113, i1_115, i1_117, i1_120, i1_121, i1_124, i1_125, i1_126, i1_129, i1_132, i1_135, i1_136, i1_139, i1_140, i1_141, nl_i, nl_r, nl_0, nl_j, nb0, nb1, nbI, orv_s, konN_v, konN_n, konN_e, true_and, and_true, and_self, if_true, if_false, ite_true, ite_false, isR_ref, true_or, or_true, isR_null, rg10, rg11, rg12, rg13, rg14, rg15, rg16, rh13, rh14, rh15, rh16, nI_le_zn (show c < 2 ^ 31 by omega), zn_11, hc2, not_false_eq_true, ← nI_succ]
theorem s_vf_loop (hs : SUp h T s t q sa n pg) : ∀ m k c U l, k + m = n → c ≤ 11 → Ev (d + 1) 1 6 [some (.ref t), some (.int th), some (.int z), some (.int g), some (.int (nI c)), some (.int (nI k)), l] [] (MH h T U S A J G) K = K (.inl (some (.int ((itn (vStep pg th z g) k m (c, U (t + 2))).2 0)))) (MH h T (upf U (t + 2) (itn (vStep pg th z g) k m (c, U (t + 2))).2) S A J G)
  | 0, k, c, U, l, hk, hc => by
    rw [i1_6]
    have hn : n ≤ 700 := hs.2.2.2.2.2.2.2
    simp only [in1, i1_0, i1_1, i1_3, i1_4, i1_8, i1_9, i1_12, i1_13, i1_16, i1_17, i1_20, i1_22, i1_23, i1_25, i1_27, i1_30, i1_32, i1_34, i1_37, i1_39, i1_40, i1_43, i1_46, i1_47, i1_50, i1_52, i1_53, i1_54, i1_56, i1_57, i1_60, i1_62, i1_63, i1_64, i1_65, i1_66, i1_69, i1_71, i1_72, i1_75, i1_76, i1_79, i1_81, i1_83, i1_86, i1_87, i1_90, i1_92, i1_94, i1_97, i1_99, i1_102, i1_104, i1_106, i1_109, i1_110, i1_113, i1_115, i1_117, i1_120, i1_121, i1_124, i1_125, i1_126, i1_129, i1_132, i1_135, i1_136, i1_139, i1_140, i1_141, nl_i, nl_r, nl_0, nl_j, nb0, nb1, nbI, orv_s, konN_v, konN_n, konN_e, true_and, and_true, and_self, if_true, if_false, ite_true, ite_false, isR_ref, true_or, or_true, isR_null, rg10, rg11, rg12, rg13, rg14, rg15, rg16, rh13, rh14, rh15, rh16, su_tk hs, su_t0 hs, su_t1 hs, su_pk hs, su_pl hs, su_sk hs, su_sl hs, su_sa hs, nI_le_zn (show k < 2 ^ 31 by omega), nI_clamp (show n < 2 ^ 31 by omega), show ¬ k < n by omega, not_false_eq_true, inb0 (show 0 < 11 by omega), zn_0, itn, upf_id, show (10 ≤ 10 ∧ 10 ≤ 16) = True from eq_true (by decide)]
  | m + 1, k, c, U, l, hk, hc => by
    rw [i1_6]
    have hn : n ≤ 700 := hs.2.2.2.2.2.2.2
    have ih := fun (c : Nat) (U : Nat → Nat → Int32) (l : Option Value) (hc : c ≤ 11) => s_vf_loop hs m (k + 1) c U l (show k + 1 + m = n by omega) hc
    simp only [in1, i1_0, i1_1, i1_3, i1_4, i1_8, i1_9, i1_12, i1_13, i1_16, i1_17, i1_20, i1_22, i1_23, i1_25, i1_27, i1_30, i1_32, i1_34, i1_37, i1_39, i1_40, i1_43, i1_46, i1_47, i1_50, i1_52, i1_53, i1_54, i1_56, i1_57, i1_60, i1_62, i1_63, i1_64, i1_65, i1_66, i1_69, i1_71, i1_72, i1_75, i1_76, i1_81, i1_83, i1_86, i1_87, i1_90, i1_92, i1_94, i1_97, i1_99, i1_102, i1_104, i1_106, i1_109, i1_110, i1_113, i1_115, i1_117, i1_120, i1_121, i1_124, i1_125, i1_126, i1_129, i1_132, i1_135, i1_136, i1_139, i1_140, i1_141, nl_i, nl_r, nl_0, nl_j, nb0, nb1, nbI, orv_s, konN_v, konN_n, konN_e, true_and, and_true, and_self, if_true, if_false, ite_true, ite_false, isR_ref, true_or, or_true, isR_null, rg10, rg11, rg12, rg13, rg14, rg15, rg16, rh13, rh14, rh15, rh16, s_result, s_vf_push hs hc, su_sw hs, su_tk hs, su_t0 hs, su_t1 hs, su_pk hs, su_pl hs, su_pa hs, su_sk hs, su_sl hs, su_sa hs, nI_le_zn (show k < 2 ^ 31 by omega), nI_clamp (show n < 2 ^ 31 by omega), show k < n by omega, not_true, inbT (show k < n by omega) (show n < 2 ^ 31 by omega), nI_clamp (show k < 2 ^ 31 by omega), ← nI_succ, show (10 ≤ 10 ∧ 10 ≤ 16) = True from eq_true (by decide), nI_lt_zn (show c < 2 ^ 31 by omega), nI_le_zn (show c < 2 ^ 31 by omega), zn_2, zn_11, itn]
    by_cases h1 : 0 ≤ pg k
    · rw [if_pos h1]
      have hn : ¬ (pg k < 0 ∧ -4 ≤ pg k) := fun z => absurd h1 (Int32.not_le.mpr z.1)
      by_cases h3 : c < 11
      · rw [if_pos h3, ih (c + 1) _ _ (by omega), upf_same, upf_upf, vs_push hn h3]
      · rw [if_neg h3, ih c _ _ hc, vs_full hn h3]
    · rw [if_neg h1]
      by_cases h2 : pg k < -4
      · rw [if_pos h2]
        have hn : ¬ (pg k < 0 ∧ -4 ≤ pg k) := fun z => absurd h2 (Int32.not_lt.mpr z.2)
        by_cases h3 : c < 11
        · rw [if_pos h3, ih (c + 1) _ _ (by omega), upf_same, upf_upf, vs_push hn h3]
        · rw [if_neg h3, ih c _ _ hc, vs_full hn h3]
      · rw [if_neg h2]
        have hp : pg k < 0 ∧ -4 ≤ pg k := ⟨Int32.not_le.mp h1, Int32.not_lt.mp h2⟩
        by_cases h3 : c < 2
        · rw [if_pos h3, ih c _ _ hc, vs_skip hp (by omega)]
        · rw [if_neg h3]
          obtain ⟨e, rfl⟩ : ∃ e, c = e + 2 := ⟨c - 2, by omega⟩
          simp only [nI_m1, nI_pred, inbT (show e < 11 by omega) (show 11 < 2 ^ 31 by omega), inbT (show e + 1 < 11 by omega) (show 11 < 2 ^ 31 by omega), nI_clamp (show e < 2 ^ 31 by omega), nI_clamp (show e + 1 < 2 ^ 31 by omega), true_and]
          rw [ih (e + 1) _ _ (by omega), upf_same, upf_upf, vs_op hp]
theorem s_valueFor (hs : SUp h T s t q sa n pg) : EvM (d + 1) 1 [.ref t, .int th, .int z, .int g] (MH h T U S A J G) K = K (.inl (some (.int (vRun pg n th z g (U (t + 2)) 0)))) (MH h T (upf U (t + 2) (vRun pg n th z g (U (t + 2)))) S A J G) := by
  simp only [in1, i1_0, i1_1, i1_3, i1_4, i1_8, i1_9, i1_12, i1_13, i1_16, i1_17, i1_20, i1_22, i1_23, i1_25, i1_27, i1_30, i1_32, i1_34, i1_37, i1_39, i1_40, i1_43, i1_46, i1_47, i1_50, i1_52, i1_53, i1_54, i1_56, i1_57, i1_60, i1_62, i1_63, i1_64, i1_65, i1_66, i1_69, i1_71, i1_72, i1_75, i1_76, i1_79, i1_81, i1_83, i1_86, i1_87, i1_90, i1_92, i1_94, i1_97, i1_99, i1_102, i1_104, i1_106, i1_109, i1_110, i1_113, i1_115, i1_117, i1_120, i1_121, i1_124, i1_125, i1_126, i1_129, i1_132, i1_135, i1_136, i1_139, i1_140, i1_141, nl_i, nl_r, nl_0, nl_j, nb0, nb1, nbI, orv_s, konN_v, konN_n, konN_e, true_and, and_true, and_self, if_true, if_false, ite_true, ite_false, isR_ref, true_or, or_true, isR_null, rg10, rg11, rg12, rg13, rg14, rg15, rg16, rh13, rh14, rh15, rh16]
  have key := s_vf_loop (d := d) (S := S) (A := A) (J := J) (G := G) (K := K) (th := th) (z := z) (g := g) hs n 0 0 U none (by omega) (by omega)
  rw [nI_0] at key
  exact key
end VF
