/-! A COPY OF A LINE -/
theorem upf_sep {α : Type} {B : Nat → α} {b c i j : Nat} {g : α} (hs : b + 11 ≤ c ∨ c + 11 ≤ b) (hi : i ≤ 10) (hj : j ≤ 10) : upf B (b + i) g (c + j) = B (c + j) := upf_ne B g (by omega)
theorem up2_sep {S : Nat → Nat → Int32} {b c k l : Nat} {v : Int32} (hs : b + 11 ≤ c ∨ c + 11 ≤ b) : up2 S b k v c l = S c l := if_neg (by omega)
theorem mh_congr {h : AH} {T : Nat → Bool} {U S S2 A A2 : Nat → Nat → Int32} {J : Nat → Nat → Int64} {G : Nat → Nat} (h1 : ∀ i k, oF1 S G i k = oF1 S2 G i k) (h2 : ∀ i, A i = A2 i) : MH h T U S A J G = MH h T U S2 A2 J G := by
  have e : A = A2 := funext h2
  subst e
  refine ah_ext rfl rfl (fun _ => rfl) (fun i k => ?_) (fun _ => rfl) (fun _ => rfl) (fun _ => rfl) rfl
  show (if own i = true then oF1 S G i k else _) = (if own i = true then oF1 S2 G i k else _)
  rw [h1]
theorem oF_pS {S : Nat → Nat → Int32} {G : Nat → Nat} {b : Nat} {g : Nat → Int32} (hb : isLine b = true) (i k : Nat) : oF1 (up2 (up2 (up2 (up2 S b 1 (g 1)) b 2 (g 2)) b 3 (g 3)) b 4 (g 4)) G i k = oF1 (pS S b g) G i k := by
  obtain ⟨n0, n13, n50, n140⟩ := ln_ne hb
  by_cases e : i = b
  · subst e
    rw [oF_ln hb, oF_ln hb]
    unfold lnF
    rcases Nat.lt_or_ge k 5 with h5 | h5
    · match k, h5 with
      | 0, _ => rfl
      | 1, _ => simp [up2, pS]
      | 2, _ => simp [up2, pS]
      | 3, _ => simp [up2, pS]
      | 4, _ => simp [up2, pS]
    · have k0 : ¬ k = 0 := by omega
      have k5 : ¬ k < 5 := by omega
      simp only [k0, k5, if_false]
  · have hu : ∀ j, up2 (up2 (up2 (up2 S b 1 (g 1)) b 2 (g 2)) b 3 (g 3)) b 4 (g 4) i j = pS S b g i j := fun j => by
      simp [up2, pS, e]
    have h13 : ∀ j, up2 (up2 (up2 (up2 S b 1 (g 1)) b 2 (g 2)) b 3 (g 3)) b 4 (g 4) 13 j = pS S b g 13 j := fun j => by
      simp [up2, pS, Ne.symm n13]
    have h50 : ∀ j, up2 (up2 (up2 (up2 S b 1 (g 1)) b 2 (g 2)) b 3 (g 3)) b 4 (g 4) 50 j = pS S b g 50 j := fun j => by
      simp [up2, pS, Ne.symm n50]
    have h140 : ∀ j, up2 (up2 (up2 (up2 S b 1 (g 1)) b 2 (g 2)) b 3 (g 3)) b 4 (g 4) 140 j = pS S b g 140 j := fun j => by
      simp [up2, pS, Ne.symm n140]
    unfold oF1 lnF
    simp only [hu, h13, h50, h140]
section CP
variable {d : Nat} {h : AH} {T : Nat → Bool} {U S A : Nat → Nat → Int32} {J : Nat → Nat → Int64} {G : Nat → Nat} {K : AO → AH → Prop} {b c : Nat}
theorem pA_chain : upf (upf (upf (upf (upf (upf (upf (upf (upf (upf A (b + 1) (A (c + 1))) (b + 2) (A (c + 2))) (b + 3) (A (c + 3))) (b + 4) (A (c + 4))) (b + 5) (A (c + 5))) (b + 6) (A (c + 6))) (b + 7) (A (c + 7))) (b + 8) (A (c + 8))) (b + 9) (A (c + 9))) (b + 10) (A (c + 10)) = pA A b (fun j => A (c + j)) := by
  funext i
  unfold upf pA
  by_cases hr : b < i ∧ i ≤ b + 10
  · rw [if_pos hr]
    obtain ⟨j, rfl⟩ : ∃ j, i = b + j := ⟨i - b, by omega⟩
    have hj : 1 ≤ j ∧ j ≤ 10 := by omega
    rw [show b + j - b = j by omega]
    rcases (show j = 1 ∨ j = 2 ∨ j = 3 ∨ j = 4 ∨ j = 5 ∨ j = 6 ∨ j = 7 ∨ j = 8 ∨ j = 9 ∨ j = 10 by omega) with e | e | e | e | e | e | e | e | e | e <;> subst e <;> simp
  · rw [if_neg hr]
    repeat rw [if_neg (by omega)]
theorem s_copyFrom (hb : isLine b = true) (hc : isLine c = true) (hs : b + 11 ≤ c ∨ c + 11 ≤ b) : EvM (d + 1) 13 [.ref b, .ref c] (MH h T U S A J G) K = K (.inl none) (MH h T U (pS S b (S c)) (pA A b (fun j => A (c + j))) J (upf G b (G c))) := by
  have e6 : ((6 : Int32) < 0) = False := eq_false (by decide)
  have e20 : ((20 : Int32) < 0) = False := eq_false (by decide)
  simp only [in13, i13_0, i13_1, i13_2, i13_5, i13_8, i13_9, i13_10, i13_13, i13_16, i13_17, i13_18, i13_21, i13_24, i13_25, i13_26, i13_29, i13_32, i13_33, i13_34, i13_37, i13_40, i13_41, i13_44, i13_45, i13_46, i13_49, i13_50, i13_52, i13_55, i13_56, i13_59, i13_60, i13_61, i13_64, i13_65, i13_67, i13_70, i13_71, i13_74, i13_75, i13_76, i13_79, i13_80, i13_82, i13_85, i13_86, i13_89, i13_90, i13_91, i13_94, i13_95, i13_97, i13_100, i13_101, i13_104, i13_105, i13_106, i13_109, i13_110, i13_112, i13_115, i13_116, i13_119, i13_120, i13_121, i13_124, i13_125, i13_127, i13_130, i13_131, i13_134, i13_135, i13_136, i13_139, i13_140, i13_142, i13_145, i13_146, i13_149, i13_150, i13_151, i13_154, i13_155, i13_157, i13_160, i13_161, i13_164, i13_165, i13_166, i13_169, i13_170, i13_172, i13_175, i13_176, i13_179, i13_180, i13_181, i13_184, i13_185, i13_187, i13_190, nl_i, nl_r, nl_0, nl_j, nb0, nb1, nbI, orv_s, konN_v, konN_n, konN_e, true_and, and_true, and_self, if_true, if_false, ite_true, ite_false, isR_ref, true_or, or_true, isR_null, rg10, rg11, rg12, rg13, rg14, rg15, rg16, rh13, rh14, rh15, rh16, k_l0 hb, k_l1 hb, k_l2 hb, k_l3 hb, k_l4 hb, k_l5 hb, k_l6 hb, k_l7 hb, k_l8 hb, k_l9 hb, k_l10 hb, l_l1 hb, l_l2 hb, l_l3 hb, l_l4 hb, l_l5 hb, l_l6 hb, l_l7 hb, l_l8 hb, l_l9 hb, l_l10 hb, a_l1 hb, a_l2 hb, a_l3 hb, a_l4 hb, a_l5 hb, a_l6 hb, a_l7 hb, a_l8 hb, a_l9 hb, a_l10 hb, wa_l1 hb, wa_l2 hb, wa_l3 hb, wa_l4 hb, wa_l5 hb, wa_l6 hb, wa_l7 hb, wa_l8 hb, wa_l9 hb, wa_l10 hb, f_l0 hb, f_l1 hb, f_l2 hb, f_l3 hb, f_l4 hb, f_l5 hb, f_l6 hb, f_l7 hb, f_l8 hb, f_l9 hb, f_l10 hb, f_l11 hb, f_l12 hb, f_l13 hb, f_l14 hb, w_l0 hb, w_l1 hb, w_l2 hb, w_l3 hb, w_l4 hb, k_l0 hc, k_l1 hc, k_l2 hc, k_l3 hc, k_l4 hc, k_l5 hc, k_l6 hc, k_l7 hc, k_l8 hc, k_l9 hc, k_l10 hc, l_l1 hc, l_l2 hc, l_l3 hc, l_l4 hc, l_l5 hc, l_l6 hc, l_l7 hc, l_l8 hc, l_l9 hc, l_l10 hc, a_l1 hc, a_l2 hc, a_l3 hc, a_l4 hc, a_l5 hc, a_l6 hc, a_l7 hc, a_l8 hc, a_l9 hc, a_l10 hc, wa_l1 hc, wa_l2 hc, wa_l3 hc, wa_l4 hc, wa_l5 hc, wa_l6 hc, wa_l7 hc, wa_l8 hc, wa_l9 hc, wa_l10 hc, f_l0 hc, f_l1 hc, f_l2 hc, f_l3 hc, f_l4 hc, f_l5 hc, f_l6 hc, f_l7 hc, f_l8 hc, f_l9 hc, f_l10 hc, f_l11 hc, f_l12 hc, f_l13 hc, f_l14 hc, w_l0 hc, w_l1 hc, w_l2 hc, w_l3 hc, w_l4 hc, e6, e20, zn_6, zn_20, Nat.le_refl, not_false_eq_true, up2_sep hs, upf_sep hs, Nat.reduceLeDiff]
  rw [mh_congr (fun i k => oF_pS hb i k) (fun i => congrFun pA_chain i)]
end CP
