/-! A BUILDER: toString, append of a number -/
section SBB
variable {d : Nat} {h : AH} {X : Nat → Prop} {v : Value} {bs cs : List Nat} {K : AO → AH → Prop} {i b cap m n c : Nat}
def tsH (h : AH) (len : Nat) (F : Nat → Int32) : AH := wF (wA (alA (wF (alO h 22 4 (dfl 11)) (hN h) 1 (.int 0)) 11 len) (hN h + 1) F) (hN h) 0 (.ref (hN h + 1))
theorem ts_ok {F : Nat → Int32} (hF' : ∀ j, j < bs.length → F j = nI (bs.getD j 0)) (h0 : (∀ j, j < bs.length → bs.getD j 0 < 128) ∧ bs.length ≤ 1000) : (Sm noW h (tsH h bs.length F) ∧ hN (tsH h bs.length F) = hN h + 2 ∧ hS (tsH h bs.length F) ≤ hS h + 1010) ∧ StrR (tsH h bs.length F) (fun x => hN h ≤ x) (.ref (hN h)) bs := by
  have w : ∀ (x : AH) (k : Nat) (v : Value), Sm (fun j => hN h ≤ j) x (wF x (hN h) k v) := fun _ _ _ => Sm.wF (Nat.le_refl _)
  have s1 : Sm noW h (tsH h bs.length F) := ((((Sm.alO (W := fun j => hN h ≤ j)).tr (w _ _ _)).tr (Sm.alA.tr (Sm.wA (Nat.le_succ _)))).tr (w _ _ _)).mo (fun i hi z => by omega)
  have n1 : hN (wF (alO h 22 4 (dfl 11)) (hN h) 1 (.int 0)) = hN h + 1 := rfl
  refine ⟨⟨s1, rfl, by show hS h + 4 + bs.length ≤ _; omega⟩, h0, Or.inr ⟨hN h, hN h + 1, rfl, ⟨Nat.le_refl _, Nat.le_succ _⟩, ⟨by show hN h < hN h + 2; omega, by show hN h + 1 < hN h + 2; omega⟩, ⟨?_, ?_, ?_⟩, ⟨?_, ?_⟩, fun j hj => ?_⟩⟩
  · show hk (alA (wF (alO h 22 4 (dfl 11)) (hN h) 1 (.int 0)) 11 bs.length) (hN h) = 22
    rw [(Sm.alA (W := noW)).k (by rw [n1]; omega)]
    exact alO_k (fs := dfl 11) (n := 4)
  · exact wF_eq
  · unfold tsH
    rw [wF_nk (by omega)]
    show hF (wF (alO h 22 4 (dfl 11)) (hN h) 1 (.int 0)) (hN h) 1 = _
    exact wF_eq
  · exact alA_k (g := wF (alO h 22 4 (dfl 11)) (hN h) 1 (.int 0))
  · exact alA_l (g := wF (alO h 22 4 (dfl 11)) (hN h) 1 (.int 0))
  · show hA (wA _ (hN h + 1) F) (hN h + 1) j = _
    rw [wA_eq]
    exact hF' j hj
theorem recv15 (h0 : hk h i = 21) : (recv h 15 (some (.ref i)) = true) = True := by
  refine eq_true ?_
  show ((decide (hk h i = kc 15) && decide (15 < 12)) || (decide (15 = 15) && decide (hk h i = 21))) = true
  rw [h0]
  rfl
theorem s_toStr (x : SBr h i b cap bs) : ∃ F, (∀ j, j < bs.length → F j = nI (bs.getD j 0)) ∧ ∀ d K, EvM (d + 6) 108 [.ref i] h K = K (.inl (some (.ref (hN h)))) (tsH h bs.length F) := by
  have nb := x.ne
  obtain ⟨⟨a1, a2, a3, a4⟩, ⟨b1, b2⟩, ⟨c1, c2⟩, ⟨d1, d2⟩, ⟨e1, e2⟩, f1, f2⟩ := x
  obtain ⟨g0, hg0⟩ : ∃ x, x = alO h 22 4 (dfl 11) := ⟨_, rfl⟩
  obtain ⟨g1, hg1⟩ : ∃ x, x = wF g0 (hN h) 1 (.int 0) := ⟨_, rfl⟩
  have s0 : Sm noW h g0 := by rw [hg0]; exact Sm.alO
  have s1 : Sm noW h g1 := by
    rw [hg1, hg0]
    exact ((Sm.alO (W := fun j => j = hN h)).tr (Sm.wF rfl)).mo (fun i hi z => by omega)
  have k0 : hk g0 (hN h) = 22 := by rw [hg0]; exact alO_k
  have k1 : hk g1 (hN h) = 22 := by rw [hg1]; exact k0
  have n0 : hN g0 = hN h + 1 := by rw [hg0]; rfl
  have n1 : hN g1 = hN h + 1 := by rw [hg1]; exact n0
  have ka : ∀ m, hk (alA g1 11 m) (hN h) = 22 := fun m => ((Sm.alA (W := noW)).k (by omega)).trans k1
  have q0 : hk g0 i = 21 ∧ hF g0 i 0 = .ref b ∧ hF g0 i 1 = .int 0 ∧ hF g0 i 3 = .int (nI bs.length) ∧ hk g0 b = 11 ∧ hl g0 b = cap := by
    refine ⟨(s0.k d1).trans a1, (s0.F d1 (fun z => z)).trans a2, (s0.F d1 (fun z => z)).trans a3, (s0.F d1 (fun z => z)).trans a4, (s0.k d2).trans b1, (s0.l d2).trans b2⟩
  have q1 : hk g1 i = 21 ∧ hF g1 i 0 = .ref b ∧ hF g1 i 1 = .int 0 ∧ hF g1 i 3 = .int (nI bs.length) ∧ hk g1 b = 11 ∧ hl g1 b = cap := by
    refine ⟨(s1.k d1).trans a1, (s1.F d1 (fun z => z)).trans a2, (s1.F d1 (fun z => z)).trans a3, (s1.F d1 (fun z => z)).trans a4, (s1.k d2).trans b1, (s1.l d2).trans b2⟩
  have ab : hA g1 b = hA h b := s1.A d2 (fun z => z)
  have z0 : ((0 : Int32) < 0) = False := eq_false (by decide)
  have l0 : (nI bs.length < 0) = False := eq_false (nI_pos (by omega))
  have l0' : (0 ≤ nI bs.length) = True := eq_true (nI_pos' (by omega))
  have sub0 : nI bs.length - 0 = nI bs.length := Int32.sub_zero _
  have sub1 : nI cap - 0 = nI cap := Int32.sub_zero _
  by_cases hc : bs.length = cap
  · refine ⟨hA h b, e1, fun d K => ?_⟩
    have bo : (∀ j, j < cap → -128 ≤ hA h b (0 + j) ∧ hA h b (0 + j) ≤ 127) = True := eq_true (fun j hj => by rw [Nat.zero_add]; exact e2 j hj)
    have kb : hk (wA (alA g1 11 cap) (hN h + 1) (hA h b)) (hN h + 1) = 11 := by rw [← n1]; exact alA_k
    unfold tsH
    rw [← hg0, ← hg1, hc]
    simp only [in108, i108_0, i108_3, i108_4, i108_5, i108_8, in110, i110_0, i110_1, i110_2, i110_3, i110_6, in114, i114_0, i114_1, i114_4, i114_5, i114_8, i114_9, i114_10, i114_13, i114_15, i114_16, i114_19, i114_22, i114_23, i114_24, i114_27, i114_28, i114_29, i114_30, i114_32, i114_35, i114_38, i114_41, i114_44, i114_47, i114_48, i114_51, i114_54, i114_55, i114_56, i114_57, i114_79, i114_80, i114_81, i114_84, i114_85, i114_86, i114_87, i114_89, i114_90, i114_91, i114_94, i114_97, in151, i151_0, i151_1, i151_4, in109, i109_0, i109_1, i109_4, in146, i146_0, i146_1, i146_4, in152, i152_0, i152_3, i152_6, i152_7, i152_10, i152_13, i152_14, i152_17, i152_18, in159, i159_0, i159_1, i159_4, i159_5, i159_6, i159_7, i159_10, i159_11, i159_12, i159_13, i159_16, i159_17, i159_18, i159_21, i159_24, nl_i, nl_r, nl_0, nl_j, nb0, nb1, nbI, orv_s, konN_v, konN_n, konN_e, true_and, and_true, and_self, if_true, if_false, ite_true, ite_false, isR_ref, true_or, or_true, isR_null, rg10, rg11, rg12, rg13, rg14, rg15, rg16, rh13, rh14, rh15, rh16, bI_T, bI_F, bI_Fb, i1z, Bool.false_eq_true, ← hg0, k0, k1, q0.1, q0.2.1, q0.2.2.1, q0.2.2.2.1, q0.2.2.2.2.1, q0.2.2.2.2.2, recvU21 q0.1, recv15 q0.1, i1z, ← hg1, q1.2.2.2.2.1, q1.2.2.2.2.2, hc, ab, bo, n1, kb, k_wA, ka]
  · obtain ⟨F, hF⟩ : ∃ F, F = va_cpy (hA h b) (fun _ => (0 : Int32)) 0 0 bs.length := ⟨_, rfl⟩
    refine ⟨F, fun j hj => ?_, fun d K => ?_⟩
    · rw [hF]
      show (if 0 ≤ j ∧ j < 0 + bs.length then hA h b (0 + (j - 0)) else 0) = _
      rw [if_pos ⟨by omega, by omega⟩, show 0 + (j - 0) = j by omega]
      exact e1 j hj
    · have bo : (∀ j, j < bs.length → -128 ≤ hA h b (0 + j) ∧ hA h b (0 + j) ≤ 127) = True := eq_true (fun j hj => by rw [Nat.zero_add]; exact e2 j (by omega))
      have nc : (nI bs.length = nI cap) = False := eq_false (fun y => hc (nI_inj (by omega) (by omega) y))
      have mc : (if nI bs.length < nI cap then nI bs.length else nI cap) = nI bs.length := by simp only [nI_lI (show bs.length < 2 ^ 31 by omega) (show cap < 2 ^ 31 by omega), if_pos (show bs.length < cap by omega)]
      have kb : hk (alA g1 11 bs.length) (hN h + 1) = 11 := by rw [← n1]; exact alA_k
      have lb : hl (alA g1 11 bs.length) (hN h + 1) = bs.length := by rw [← n1]; exact alA_l
      have abn : hA (alA g1 11 bs.length) (hN h + 1) = fun _ => 0 := by rw [← n1]; exact alA_A
      have kb2 : hk (alA g1 11 bs.length) b = 11 := ((Sm.alA (W := noW)).k (by omega)).trans q1.2.2.2.2.1
      have lb2 : hl (alA g1 11 bs.length) b = cap := ((Sm.alA (W := noW)).l (by omega)).trans q1.2.2.2.2.2
      have ab2 : hA (alA g1 11 bs.length) b = hA h b := ((Sm.alA (W := noW)).A (by omega) (fun z => z)).trans ab
      unfold tsH
      rw [← hg0, ← hg1]
      simp only [in108, i108_0, i108_3, i108_4, i108_5, i108_8, in110, i110_0, i110_1, i110_2, i110_3, i110_6, in114, i114_0, i114_1, i114_4, i114_5, i114_8, i114_9, i114_10, i114_13, i114_15, i114_16, i114_19, i114_22, i114_23, i114_24, i114_27, i114_28, i114_29, i114_30, i114_32, i114_35, i114_38, i114_41, i114_44, i114_47, i114_48, i114_51, i114_54, i114_55, i114_56, i114_57, i114_79, i114_80, i114_81, i114_84, i114_85, i114_86, i114_87, i114_89, i114_90, i114_91, i114_94, i114_97, in151, i151_0, i151_1, i151_4, in109, i109_0, i109_1, i109_4, in146, i146_0, i146_1, i146_4, in152, i152_0, i152_3, i152_6, i152_7, i152_10, i152_13, i152_14, i152_17, i152_18, in159, i159_0, i159_1, i159_4, i159_5, i159_6, i159_7, i159_10, i159_11, i159_12, i159_13, i159_16, i159_17, i159_18, i159_21, i159_24, in160, i160_0, i160_1, i160_2, i160_5, i160_6, i160_7, i160_8, i160_9, i160_10, i160_12, i160_14, i160_15, i160_16, i160_18, i160_19, i160_20, i160_21, i160_22, i160_23, i160_24, i160_27_r, i160_30, i160_32, in158, i158_0, i158_1, i158_2, i158_8, i158_9, i158_12, i158_13, i158_16, i158_17, i158_37, nl_i, nl_r, nl_0, nl_j, nb0, nb1, nbI, orv_s, konN_v, konN_n, konN_e, true_and, and_true, and_self, if_true, if_false, ite_true, ite_false, isR_ref, true_or, or_true, isR_null, rg10, rg11, rg12, rg13, rg14, rg15, rg16, rh13, rh14, rh15, rh16, bI_T, bI_F, bI_Fb, i1z, Bool.false_eq_true, ← hg0, k0, k1, q0.1, q0.2.1, q0.2.2.1, q0.2.2.2.1, q0.2.2.2.2.1, q0.2.2.2.2.2, recvU21 q0.1, recv15 q0.1, i1z, ← hg1, q1.2.2.2.2.1, q1.2.2.2.2.2, nc, l0, l0', sub0, sub1, mc, nI_clamp (show bs.length < 2 ^ 31 by omega), show (¬ (False ∨ 60000000 < bs.length)) = True from eq_true (fun y => y.elim id (fun y => by omega)), n1, kb, lb, abn, kb2, lb2, ab2, z0, zn_0, not_false_eq_true, Nat.zero_add, Nat.le_refl, show bs.length ≤ cap by omega, bo, ← hF, k_wA, ka]
end SBB
