/-! HEAT -/
def lim6 (e : Int64) : Int32 := if -1000000 ≤ e then (if e ≤ 1000000 then e.toInt32 else 1000000) else -1000000
def exC (op l r : Int32) : Int64 := if op = -1 then l.toInt64 + r.toInt64 else if op = -2 then l.toInt64 - r.toInt64 else if op = -3 then l.toInt64 * r.toInt64 else if r = 0 then 0 else l.toInt64 / r.toInt64
def resC (op l r : Int32) : Int32 := lim6 (exC op l r)
theorem i64z {x : Int32} : (x.toInt64 = 0) = (x = 0) := by
  refine propext ⟨fun h => ?_, fun h => by subst h; rfl⟩
  have h := congrArg Int64.toInt h
  rw [Int32.toInt_toInt64] at h
  exact Int32.toInt_inj.mp h
section HT1
variable {d : Nat} {hh : AH} {h : AH} {T : Nat → Bool} {U S A : Nat → Nat → Int32} {J : Nat → Nat → Int64} {G : Nat → Nat} {K : AO → AH → Prop} {b s t n : Nat} {x y z w op l r : Int32} {f q pg : Nat → Int32} {a sa : Nat → Nat → Int32}
theorem s_res_end {e : Int64} {l0 l1 l2 : Option Value} : Ev d 2 69 [l0, l1, l2, some (.long e), none] [] hh K = K (.inl (some (.int (lim6 e)))) hh := by
  simp only [in2, i2_0, i2_1, i2_2, i2_3_0, i2_3_1, i2_3_2, i2_3_d, i2_28, i2_29, i2_30, i2_31, i2_32, i2_33, i2_34, i2_37, i2_38, i2_39, i2_40, i2_41, i2_42, i2_43, i2_46, i2_47, i2_48, i2_49, i2_50, i2_51, i2_52, i2_55, i2_56, i2_59, i2_60, i2_63, i2_64, i2_65, i2_66, i2_67, i2_68, i2_69, i2_70, i2_73, i2_74, i2_77, i2_79, i2_82, i2_83, i2_86, i2_87, i2_90, i2_92, i2_95, i2_96, i2_97, nl_i, nl_r, nl_0, nl_j, nb0, nb1, nbI, orv_s, konN_v, konN_n, konN_e, true_and, and_true, and_self, if_true, if_false, ite_true, ite_false, isR_ref, true_or, or_true, isR_null, rg10, rg11, rg12, rg13, rg14, rg15, rg16, rh13, rh14, rh15, rh16, lg_cmp_ge, lg_cmp_le]
  unfold lim6
  repeat' split
  all_goals rfl
theorem s_result : EvM d 2 [.int op, .int l, .int r] hh K = K (.inl (some (.int (resC op l r)))) hh := by
  unfold resC exC
  by_cases h1 : op = -1
  · subst h1
    simp only [in2, i2_0, i2_1, i2_2, i2_3_2, i2_28, i2_29, i2_30, i2_31, i2_32, i2_33, i2_34, nl_i, nl_r, nl_0, nl_j, nb0, nb1, nbI, orv_s, konN_v, konN_n, konN_e, true_and, and_true, and_self, if_true, if_false, ite_true, ite_false, isR_ref, true_or, or_true, isR_null, rg10, rg11, rg12, rg13, rg14, rg15, rg16, rh13, rh14, rh15, rh16, s_res_end]
  · rw [if_neg h1]
    by_cases h2 : op = -2
    · subst h2
      simp only [in2, i2_0, i2_1, i2_2, i2_3_1, i2_37, i2_38, i2_39, i2_40, i2_41, i2_42, i2_43, nl_i, nl_r, nl_0, nl_j, nb0, nb1, nbI, orv_s, konN_v, konN_n, konN_e, true_and, and_true, and_self, if_true, if_false, ite_true, ite_false, isR_ref, true_or, or_true, isR_null, rg10, rg11, rg12, rg13, rg14, rg15, rg16, rh13, rh14, rh15, rh16, s_res_end]
    · rw [if_neg h2]
      by_cases h3 : op = -3
      · subst h3
        simp only [in2, i2_0, i2_1, i2_2, i2_3_0, i2_46, i2_47, i2_48, i2_49, i2_50, i2_51, i2_52, nl_i, nl_r, nl_0, nl_j, nb0, nb1, nbI, orv_s, konN_v, konN_n, konN_e, true_and, and_true, and_self, if_true, if_false, ite_true, ite_false, isR_ref, true_or, or_true, isR_null, rg10, rg11, rg12, rg13, rg14, rg15, rg16, rh13, rh14, rh15, rh16, s_res_end]
      · rw [if_neg h3]
        have hd : op.toInt < -3 ∨ -1 < op.toInt := by
          have g1 : ¬ op.toInt = -1 := fun z => h1 (Int32.toInt_inj.mp z)
          have g2 : ¬ op.toInt = -2 := fun z => h2 (Int32.toInt_inj.mp z)
          have g3 : ¬ op.toInt = -3 := fun z => h3 (Int32.toInt_inj.mp z)
          omega
        simp only [in2, i2_0, i2_1, i2_2, i2_3_d hd, i2_55, i2_56, i2_59, i2_60, i2_63, i2_64, i2_65, i2_66, i2_67, i2_68, nl_i, nl_r, nl_0, nl_j, nb0, nb1, nbI, orv_s, konN_v, konN_n, konN_e, true_and, and_true, and_self, if_true, if_false, ite_true, ite_false, isR_ref, true_or, or_true, isR_null, rg10, rg11, rg12, rg13, rg14, rg15, rg16, rh13, rh14, rh15, rh16, s_res_end, i64z]
        by_cases h4 : r = 0
        · rw [if_pos h4, if_pos h4]
        · rw [if_neg h4, if_neg h4]
          simp only [h4, not_false_eq_true, true_and]
end HT1
