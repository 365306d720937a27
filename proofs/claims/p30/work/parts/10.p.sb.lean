/-! A BUILDER: append, toString -/
theorem gN_1 {L0 L : List Nat} {j : Nat} (h : j < L0.length) : (L0 ++ L).getD j 0 = L0.getD j 0 := by
  rw [List.getD_eq_getElem?_getD, List.getD_eq_getElem?_getD, List.getElem?_append_left h]
theorem gN_2 {L0 L : List Nat} {j : Nat} : (L0 ++ L).getD (L0.length + j) 0 = L.getD j 0 := by
  rw [List.getD_eq_getElem?_getD, List.getD_eq_getElem?_getD, List.getElem?_append_right (by omega), Nat.add_sub_cancel_left]
theorem recvU21 {h : AH} {i : Nat} (h0 : hk h i = 21) : (recvU h (some (.ref i)) = true) = True := eq_true (decide_eq_true h0)
section SBA
variable {d : Nat} {h : AH} {X : Nat → Prop} {v : Value} {bs cs : List Nat} {K : AO → AH → Prop} {i b cap m : Nat}
/-- the bytes of cs behind those of bs -/
theorem SBr.add {F : Nat → Int32} (x : SBr h i b cap bs) (h0 : ∀ j, j < cs.length → F j = nI (cs.getD j 0)) (hc : ∀ j, j < cs.length → cs.getD j 0 < 128) (hl : bs.length + cs.length ≤ cap) (hm : bs.length + cs.length ≤ 1000) : SBr (wF (wA h b (va_cpy F (hA h b) 0 bs.length cs.length)) i 3 (.int (nI (bs.length + cs.length)))) i b cap (bs ++ cs) := by
  obtain ⟨⟨a1, a2, a3, a4⟩, b1, ⟨c1, c2⟩, d1, ⟨e1, e2⟩, f1, f2⟩ := x
  have an : ∀ j, hA (wF (wA h b (va_cpy F (hA h b) 0 bs.length cs.length)) i 3 (.int (nI (bs.length + cs.length)))) b j = if bs.length ≤ j ∧ j < bs.length + cs.length then F (j - bs.length) else hA h b j := fun j => by
    show hA (wA h b (va_cpy F (hA h b) 0 bs.length cs.length)) b j = _
    rw [wA_eq]
    show (if bs.length ≤ j ∧ j < bs.length + cs.length then F (0 + (j - bs.length)) else _) = _
    rw [Nat.zero_add]
  have lb : (bs ++ cs).length = bs.length + cs.length := List.length_append
  refine ⟨⟨a1, ?_, ?_, ?_⟩, b1, ⟨by rw [lb]; exact hl, c2⟩, d1, ⟨fun j hj => ?_, fun j hj => ?_⟩, fun j hj => ?_, by rw [lb]; exact hm⟩
  · rw [wF_nk (by omega)]; exact a2
  · rw [wF_nk (by omega)]; exact a3
  · rw [wF_eq, lb]
  · rw [an]
    rw [lb] at hj
    by_cases e : bs.length ≤ j
    · rw [if_pos ⟨e, hj⟩, h0 _ (by omega)]
      obtain ⟨t, rfl⟩ : ∃ t, j = bs.length + t := ⟨j - bs.length, by omega⟩
      rw [gN_2, Nat.add_sub_cancel_left]
    · rw [if_neg (fun z => e z.1), gN_1 (by omega)]
      exact e1 j (by omega)
  · rw [an]
    by_cases e : bs.length ≤ j ∧ j < bs.length + cs.length
    · rw [if_pos e, h0 _ (by omega)]
      exact byte_nI _ (hc _ (by omega))
    · rw [if_neg e]
      exact e2 j hj
  · rw [lb] at hj
    by_cases e : bs.length ≤ j
    · obtain ⟨t, rfl⟩ : ∃ t, j = bs.length + t := ⟨j - bs.length, by omega⟩
      rw [gN_2]
      exact hc _ (by omega)
    · rw [gN_1 (by omega)]
      exact f1 j (by omega)
theorem s_app (x : SBr h i b cap bs) (y : StrR h X v cs) (hX : ¬ X i ∧ ¬ X b) (hl0 : bs.length + cs.length ≤ 1000) : ∃ h' b' cap', (Sm (fun x => x = i ∨ x = b) h h' ∧ hN h' ≤ hN h + 1 ∧ hS h' ≤ hS h + 2010) ∧ SBr h' i b' cap' (bs ++ cs) ∧ (b' = b ∨ b' = hN h) ∧ ∀ d K, EvM (d + 6) 106 [.ref i, v] h K = K (.inl (some (.ref i))) h' := by
  obtain ⟨h1, b1, cap1, ⟨s1, n1, m1⟩, ⟨x1, hc1, hb1⟩, r1⟩ := s_ens x (m := bs.length + cs.length) hl0
  have hy0 := y.1
  have y1 := y.keep s1 (fun j hj e => hX.1 (by rw [← e]; exact hj))
  have x1' := x1
  obtain ⟨⟨a1, a2, a3, a4⟩, ⟨b1k, b1l⟩, ⟨c1, c2⟩, ⟨d1, d2⟩, ⟨e1, e2⟩, f1, f2⟩ := x1'
  have nb := x1.ne
  have fin : ∀ F : Nat → Int32, (∀ j, j < cs.length → F j = nI (cs.getD j 0)) →
      (Sm (fun x => x = i ∨ x = b) h (wF (wA h1 b1 (va_cpy F (hA h1 b1) 0 bs.length cs.length)) i 3 (.int (nI (bs.length + cs.length)))) ∧ hN (wF (wA h1 b1 (va_cpy F (hA h1 b1) 0 bs.length cs.length)) i 3 (.int (nI (bs.length + cs.length)))) ≤ hN h + 1 ∧ hS (wF (wA h1 b1 (va_cpy F (hA h1 b1) 0 bs.length cs.length)) i 3 (.int (nI (bs.length + cs.length)))) ≤ hS h + 2010) ∧ SBr (wF (wA h1 b1 (va_cpy F (hA h1 b1) 0 bs.length cs.length)) i 3 (.int (nI (bs.length + cs.length)))) i b1 cap1 (bs ++ cs) := fun F hF => by
    refine ⟨⟨?_, n1, m1⟩, x1.add hF hy0.1 hc1 hl0⟩
    have w : Sm (fun x => x = i ∨ x = b ∨ x = hN h) h (wF (wA h1 b1 (va_cpy F (hA h1 b1) 0 bs.length cs.length)) i 3 (.int (nI (bs.length + cs.length)))) := ((s1.mo (V := fun x => x = i ∨ x = b ∨ x = hN h) (fun _ _ z => Or.inl z)).tr (Sm.wA (W := fun x => x = i ∨ x = b ∨ x = hN h) (Or.inr hb1))).tr (Sm.wF (W := fun x => x = i ∨ x = b ∨ x = hN h) (Or.inl rfl))
    exact w.mo (fun j hj z => by rcases z with z | z | z <;> first | exact Or.inl z | exact Or.inr z | omega)
  have n0 : (nI cs.length < 0) = False := eq_false (nI_pos (by omega))
  have n2 : (nI bs.length < 0) = False := eq_false (nI_pos (by omega))
  have z0 : ((0 : Int32) < 0) = False := eq_false (by decide)
  have ea : nI bs.length + nI cs.length = nI (bs.length + cs.length) := nI_add _ _
  have k2 : ∀ F : Nat → Int32, hk (wA h1 b1 F) i = 21 := fun F => a1
  have f3 : ∀ F : Nat → Int32, hF (wA h1 b1 F) i 3 = .int (nI bs.length) := fun F => a4
  have sl := fun (d : Nat) (K : AO → AH → Prop) => s_slen (d := d) (K := K) y
  have kx : hk h i = 21 := x.1.1
  have fx : hF h i 3 = .int (nI bs.length) := x.1.2.2.2
  rcases y1.2 with ⟨k, hk6, rfl, g1, g2⟩ | ⟨o, bv, rfl, ⟨g1, g2⟩, ⟨g3, g4⟩, ⟨g5, g6, g7⟩, ⟨g8, g9⟩, g10⟩
  · obtain ⟨w1, w2⟩ := fin (fun j => (bytJ.getD k []).getD j 0) g2
    refine ⟨_, b1, cap1, w1, w2, hb1, fun d K => ?_⟩
    have bo : (∀ j, j < cs.length → -128 ≤ (bytJ.getD k []).getD (0 + j) 0 ∧ (bytJ.getD k []).getD (0 + j) 0 ≤ 127) = True := eq_true (fun j hj => by rw [Nat.zero_add, g2 j hj]; exact byte_nI _ (hy0.1 j hj))
    simp only [in106, in106_r, i106_0, i106_1, i106_2, i106_5, i106_6, i106_7, in149, in149_r, i149_0, i149_1_N, i149_1_R, i149_1_L, i149_4, i149_9, i149_10, i149_13, i149_14, i149_15, i149_16, i149_19, i149_20, i149_21, i149_24, i149_25, i149_26, i149_29, i149_30, i149_33, i149_34, i149_35, i149_38, i149_39, i149_40, i149_43, i149_44, in154, in154_r, i154_0, i154_1, i154_2, i154_5, i154_6, i154_7, i154_10, i154_11, i154_12, i154_15, i154_18, in153, in153_r, i153_0, i153_3, i153_6, i153_7, i153_10, i153_11, i153_14, i153_17, i153_21, in113, in113_r, i113_0, i113_1, i113_4, i113_5, i113_8, i113_9_r, i113_9, i113_12, i113_13, i113_14, i113_15, i113_16, i113_17, i113_18_r, i113_18, i113_21_r, i113_21, i113_22_r, i113_22, i113_25, i113_28, i113_29_r, i113_29, i113_32, i113_33, i113_34, i113_35, i113_36_r, i113_36, i113_39_r, i113_39, i113_43, nl_i, nl_r, nl_0, nl_j, nb0, nb1, nbI, orv_s, konN_v, konN_n, konN_e, true_and, and_true, and_self, if_true, if_false, ite_true, ite_false, isR_ref, true_or, or_true, isR_null, rg10, rg11, rg12, rg13, rg14, rg15, rg16, rh13, rh14, rh15, rh16, bI_T, bI_F, bI_Fb, i1z, Bool.false_eq_true, isRL hk6, isRB hk6, recvL hk6, nl_L, hk6, kx, fx, sl, ea, r1, a1, a2, a3, a4, s_coder hk6, i1z, shl0, g1, b1k, b1l, n0, n2, z0, zn_0, zn_nI (show cs.length < 2 ^ 31 by omega), zn_nI (show bs.length < 2 ^ 31 by omega), not_false_eq_true, Nat.zero_add, Nat.le_refl, hc1, bo, k2, f3]
  · have o1 : o < hN h ∧ hk h o = 22 ∧ bv < hN h := by
      rcases y.2 with ⟨k, hk6, e5, -⟩ | ⟨o', bv', e5, -, ⟨e8, e6⟩, ⟨e9, e7, -⟩, -⟩
      · exact absurd e5 (by unfold litV; intro w; cases w)
      · cases e5
        have g6' := g6
        have hoi : ¬ o = i := fun w => hX.1 (by rw [← w]; exact g1)
        rw [s1.F e8 hoi, e7] at g6'
        cases g6'
        exact ⟨e8, e9, e6⟩
    have hne : ¬ bv = b1 := fun e => by
      rcases hb1 with z | z
      · exact hX.2 (by rw [← z, ← e]; exact g2)
      · omega
    obtain ⟨w1, w2⟩ := fin (hA h1 bv) g10
    refine ⟨_, b1, cap1, w1, w2, hb1, fun d K => ?_⟩
    have bo : (∀ j, j < cs.length → -128 ≤ hA h1 bv (0 + j) ∧ hA h1 bv (0 + j) ≤ 127) = True := eq_true (fun j hj => by rw [Nat.zero_add, g10 j hj]; exact byte_nI _ (hy0.1 j hj))
    simp only [in106, in106_r, i106_0, i106_1, i106_2, i106_5, i106_6, i106_7, in149, in149_r, i149_0, i149_1_N, i149_1_R, i149_1_L, i149_4, i149_9, i149_10, i149_13, i149_14, i149_15, i149_16, i149_19, i149_20, i149_21, i149_24, i149_25, i149_26, i149_29, i149_30, i149_33, i149_34, i149_35, i149_38, i149_39, i149_40, i149_43, i149_44, in154, in154_r, i154_0, i154_1, i154_2, i154_5, i154_6, i154_7, i154_10, i154_11, i154_12, i154_15, i154_18, in153, in153_r, i153_0, i153_3, i153_6, i153_7, i153_10, i153_11, i153_14, i153_17, i153_21, in113, in113_r, i113_0, i113_1, i113_4, i113_5, i113_8, i113_9_r, i113_9, i113_12, i113_13, i113_14, i113_15, i113_16, i113_17, i113_18_r, i113_18, i113_21_r, i113_21, i113_22_r, i113_22, i113_25, i113_28, i113_29_r, i113_29, i113_32, i113_33, i113_34, i113_35, i113_36_r, i113_36, i113_39_r, i113_39, i113_43, nl_i, nl_r, nl_0, nl_j, nb0, nb1, nbI, orv_s, konN_v, konN_n, konN_e, true_and, and_true, and_self, if_true, if_false, ite_true, ite_false, isR_ref, true_or, or_true, isR_null, rg10, rg11, rg12, rg13, rg14, rg15, rg16, rh13, rh14, rh15, rh16, bI_T, bI_F, bI_Fb, i1z, Bool.false_eq_true, kx, fx, sl, ea, r1, a1, a2, a3, a4, recvR o1.2.1, recvR g5, s_coderR g5 g7, g5, g6, g8, g9, i1z, shl0, b1k, b1l, n0, n2, z0, zn_0, zn_nI (show cs.length < 2 ^ 31 by omega), zn_nI (show bs.length < 2 ^ 31 by omega), not_false_eq_true, Nat.zero_add, Nat.le_refl, hc1, bo, k2, f3]
end SBA
