/-! STRINGS -/
/-- v is a string of the bytes bs (below 128): a literal, or an object whose cells are in X -/
def StrR (h : AH) (X : Nat → Prop) (v : Value) (bs : List Nat) : Prop := ((∀ j, j < bs.length → bs.getD j 0 < 128) ∧ bs.length ≤ 1000) ∧
  ((∃ k, k < 17 ∧ v = litV k ∧ lenJ.getD k 0 = bs.length ∧ ∀ j, j < bs.length → (bytJ.getD k []).getD j 0 = nI (bs.getD j 0)) ∨
   ∃ i b, v = .ref i ∧ (X i ∧ X b) ∧ (i < hN h ∧ b < hN h) ∧ (hk h i = 22 ∧ hF h i 0 = .ref b ∧ hF h i 1 = .int 0) ∧ (hk h b = 11 ∧ hl h b = bs.length) ∧ ∀ j, j < bs.length → hA h b j = nI (bs.getD j 0))
theorem StrR.keep {h h' : AH} {X W : Nat → Prop} {v : Value} {bs : List Nat} (x : StrR h X v bs) (hs : Sm W h h') (hW : ∀ i, X i → ¬ W i) : StrR h' X v bs := by
  obtain ⟨x0, x1⟩ := x
  refine ⟨x0, ?_⟩
  rcases x1 with x1 | ⟨i, b, e1, ⟨e2, e3⟩, ⟨e4, e5⟩, e6, e7, e8⟩
  · exact Or.inl x1
  · refine Or.inr ⟨i, b, e1, ⟨e2, e3⟩, ⟨Nat.lt_of_lt_of_le e4 hs.1, Nat.lt_of_lt_of_le e5 hs.1⟩, ?_, ?_, ?_⟩
    · rw [hs.k e4, hs.F e4 (hW i e2), hs.F e4 (hW i e2)]; exact e6
    · rw [hs.k e5, hs.l e5]; exact e7
    · rw [hs.A e5 (hW b e3)]; exact e8
theorem StrR.mo {h : AH} {X Y : Nat → Prop} {v : Value} {bs : List Nat} (x : StrR h X v bs) (hY : ∀ i, i < hN h → X i → Y i) : StrR h Y v bs := by
  obtain ⟨x0, x1⟩ := x
  refine ⟨x0, ?_⟩
  rcases x1 with x1 | ⟨i, b, e1, ⟨e2, e3⟩, ⟨e4, e5⟩, e6⟩
  · exact Or.inl x1
  · exact Or.inr ⟨i, b, e1, ⟨hY i e4 e2, hY b e5 e3⟩, ⟨e4, e5⟩, e6⟩
theorem sh0 {n : Nat} (_ : n < 2 ^ 31) : nI n >>> ((0 : Int32) &&& 31) = nI n := by
  have : ((0 : Int32) &&& 31) = 0 := rfl
  rw [this]
  exact Int32.shiftRight_zero
theorem shl0 {n : Nat} : nI n <<< ((0 : Int32) &&& 31) = nI n := by
  have : ((0 : Int32) &&& 31) = 0 := rfl
  rw [this]
  exact Int32.shiftLeft_zero
theorem chr1 : ∀ c, c < 128 → ((nI c &&& 255).toUInt32 % 65536).toInt32 = nI c := by decide +kernel
theorem chr2 : ∀ c, c < 128 → (nI c).toUInt32.toUInt16.toUInt32.toInt32 = nI c := by decide +kernel
section STR
variable {d : Nat} {h : AH} {X : Nat → Prop} {v : Value} {bs : List Nat} {K : AO → AH → Prop} {i b : Nat}
theorem recvR (h0 : hk h i = 22) : (recv h 11 (some (.ref i)) = true) = True := by
  refine eq_true ?_
  show ((decide (hk h i = kc 11) && decide (11 < 12)) || (decide (11 = 15) && decide (hk h i = 21))) = true
  rw [h0]
  rfl
theorem s_coderR (h0 : hk h i = 22) (h1 : hF h i 1 = .int 0) : EvM d 115 [.ref i] h K = K (.inl (some (.int 0))) h := by
  simp only [in115, in115_r, i115_0, i115_3, i115_6, i115_7_r, i115_7, i115_10, i115_13, i115_14, nl_i, nl_r, nl_0, nl_j, nb0, nb1, nbI, orv_s, konN_v, konN_n, konN_e, true_and, and_true, and_self, if_true, if_false, ite_true, ite_false, isR_ref, true_or, or_true, isR_null, rg10, rg11, rg12, rg13, rg14, rg15, rg16, rh13, rh14, rh15, rh16, bI_T, bI_F, bI_Fb, i1z, Bool.false_eq_true, h0, h1, nby0, i1z]
theorem s_latinR (h0 : hk h i = 22) (h1 : hF h i 1 = .int 0) : EvM d 116 [.ref i] h K = K (.inl (some (.int 1))) h := by
  simp only [in116, in116_r, i116_0, i116_3, i116_6, i116_7_r, i116_7, i116_10, i116_13, i116_14, i116_17, i116_18, nl_i, nl_r, nl_0, nl_j, nb0, nb1, nbI, orv_s, konN_v, konN_n, konN_e, true_and, and_true, and_self, if_true, if_false, ite_true, ite_false, isR_ref, true_or, or_true, isR_null, rg10, rg11, rg12, rg13, rg14, rg15, rg16, rh13, rh14, rh15, rh16, bI_T, bI_F, bI_Fb, i1z, Bool.false_eq_true, h0, h1, i1z]
theorem s_slen (x : StrR h X v bs) : EvM (d + 1) 111 [v] h K = K (.inl (some (.int (nI bs.length)))) h := by
  obtain ⟨⟨x0, xl⟩, x1⟩ := x
  rcases x1 with ⟨k, hk6, rfl, e1, -⟩ | ⟨i, b, rfl, -, -, ⟨e1, e2, e3⟩, ⟨e4, e5⟩, e6⟩
  · rw [s_length hk6, e1]
  · simp only [in111, in111_r, i111_0, i111_1_r, i111_1, i111_4_r, i111_4, i111_5, i111_6, i111_9, i111_10, nl_i, nl_r, nl_0, nl_j, nb0, nb1, nbI, orv_s, konN_v, konN_n, konN_e, true_and, and_true, and_self, if_true, if_false, ite_true, ite_false, isR_ref, true_or, or_true, isR_null, rg10, rg11, rg12, rg13, rg14, rg15, rg16, rh13, rh14, rh15, rh16, bI_T, bI_F, bI_Fb, i1z, Bool.false_eq_true, e1, e2, e4, e5, recvR e1, s_coderR e1 e3, sh0 (show bs.length < 2 ^ 31 by omega)]
theorem s_schar {j : Nat} (x : StrR h X v bs) (hj : j < bs.length) : EvM (d + 3) 112 [v, .int (nI j)] h K = K (.inl (some (.int (nI (bs.getD j 0))))) h := by
  obtain ⟨⟨x0, xl⟩, x1⟩ := x
  rcases x1 with ⟨k, hk6, rfl, e1, e2⟩ | ⟨i, b, rfl, -, -, ⟨e1, e2, e3⟩, ⟨e4, e5⟩, e6⟩
  · rw [s_charAt hk6 (by omega), e2 j hj]
  · have c1 := chr1 _ (x0 j hj)
    have c2 : (narrow .char (.int (nI (bs.getD j 0))) = .int (nI (bs.getD j 0))) = True := eq_true (congrArg Value.int (chr2 _ (x0 j hj)))
    simp only [in112, in112_r, i112_0, i112_1, i112_4, i112_7, i112_8_r, i112_8, i112_11, i112_12, i112_15, i112_16, i112_17_r, i112_17, i112_20, in143, in143_r, i143_0, i143_1, i143_2_r, i143_2, i143_3, i143_6, i143_7, i143_8_r, i143_8, i143_9, i143_12, i143_13, i143_14, in117, i117_0, i117_1, i117_2, i117_5, i117_8, i117_9, in144, i144_0, i144_1, i144_4, i144_5, i144_6, i144_9, i144_10, i144_11, i144_16, i144_17, nl_i, nl_r, nl_0, nl_j, nb0, nb1, nbI, orv_s, konN_v, konN_n, konN_e, true_and, and_true, and_self, if_true, if_false, ite_true, ite_false, isR_ref, true_or, or_true, isR_null, rg10, rg11, rg12, rg13, rg14, rg15, rg16, rh13, rh14, rh15, rh16, bI_T, bI_F, bI_Fb, i1z, Bool.false_eq_true, e1, e2, e4, e5, recvR e1, s_latinR e1 e3, i1z, eq_false (nI_pos (show j < 2 ^ 31 by omega)), nI_lt_zn (show j < 2 ^ 31 by omega), zn_nI (show bs.length < 2 ^ 31 by omega), zn_nI (show j < 2 ^ 31 by omega), hj, inbT hj (show bs.length < 2 ^ 31 by omega), e6 j hj, c1, c2]
end STR
/-! A BUILDER OF STRINGS -/
def SBr (h : AH) (i b cap : Nat) (bs : List Nat) : Prop := (hk h i = 21 ∧ hF h i 0 = .ref b ∧ hF h i 1 = .int 0 ∧ hF h i 3 = .int (nI bs.length)) ∧ (hk h b = 11 ∧ hl h b = cap) ∧ (bs.length ≤ cap ∧ cap ≤ 5000) ∧ (i < hN h ∧ b < hN h) ∧ ((∀ j, j < bs.length → hA h b j = nI (bs.getD j 0)) ∧ ∀ j, j < cap → -128 ≤ hA h b j ∧ hA h b j ≤ 127) ∧ ((∀ j, j < bs.length → bs.getD j 0 < 128) ∧ bs.length ≤ 1000)
theorem SBr.ne {h : AH} {i b cap : Nat} {bs : List Nat} (x : SBr h i b cap bs) : ¬ i = b := fun e => by
  have h1 := x.1.1
  rw [e, x.2.1.1] at h1
  exact absurd h1 (by decide)
theorem SBr.keep {h h' : AH} {W : Nat → Prop} {i b cap : Nat} {bs : List Nat} (x : SBr h i b cap bs) (hs : Sm W h h') (h1 : ¬ W i) (h2 : ¬ W b) : SBr h' i b cap bs := by
  obtain ⟨x1, x2, x3, ⟨x4, x5⟩, x6, x7⟩ := x
  refine ⟨?_, ?_, x3, ⟨Nat.lt_of_lt_of_le x4 hs.1, Nat.lt_of_lt_of_le x5 hs.1⟩, ?_, x7⟩
  · rw [hs.k x4, hs.F x4 h1, hs.F x4 h1, hs.F x4 h1]; exact x1
  · rw [hs.k x5, hs.l x5]; exact x2
  · rw [hs.A x5 h2]; exact x6
section SBS
variable {d : Nat} {h : AH} {X : Nat → Prop} {v : Value} {bs cs : List Nat} {K : AO → AH → Prop} {i b cap m : Nat}
theorem byte_nI : ∀ c, c < 128 → (-128 : Int32) ≤ nI c ∧ nI c ≤ 127 := by decide +kernel
theorem s_bnew (h0 : hk h i = 21) (hi : i < hN h) : ∃ h', (Sm (fun x => x = i) h h' ∧ hN h' = hN h + 1 ∧ hS h' = hS h + 16) ∧ (hF h i 3 = .int 0 → SBr h' i (hN h) 16 []) ∧ ∀ d K, EvM (d + 2) 105 [.ref i] h K = K (.inl none) h' := by
  have k1 : hk (alA h 11 16) i = 21 := ((Sm.alA (W := noW)).k hi).trans h0
  refine ⟨wF (wF (alA h 11 16) i 0 (.ref (hN h))) i 1 (.int 0), ⟨((Sm.alA (W := fun x => x = i)).tr (Sm.wF (W := fun x => x = i) rfl)).tr (Sm.wF (W := fun x => x = i) rfl), rfl, rfl⟩, fun h3 => ?_, fun d K => ?_⟩
  · refine ⟨⟨k1, ?_, wF_eq, ?_⟩, ⟨alA_k, alA_l⟩, ⟨Nat.zero_le _, by omega⟩, ⟨Nat.lt_succ_of_lt hi, Nat.lt_succ_self _⟩, ⟨fun j hj => absurd hj (Nat.not_lt_zero j), fun j hj => ?_⟩, fun j hj => absurd hj (Nat.not_lt_zero j), by decide⟩
    · rw [wF_nk (by omega), wF_eq]
    · rw [wF_nk (by omega), wF_nk (by omega)]
      exact h3.trans (by rfl)
    · show -128 ≤ hA (alA h 11 16) (hN h) j ∧ _
      rw [show hA (wF (wF (alA h 11 16) i 0 (.ref (hN h))) i 1 (.int 0)) (hN h) j = hA (alA h 11 16) (hN h) j from rfl, alA_A]
      exact (by decide : (-128 : Int32) ≤ 0 ∧ (0 : Int32) ≤ 127)
  · have k2 : ∀ (x : AH) (k : Nat) (v : Value) (j : Nat), hk (wF x i k v) j = hk x j := fun _ _ _ _ => rfl
    simp only [in105, i105_0, i105_1, i105_3, i105_6, in145, i145_0, i145_1, i145_4, i145_7, i145_10, i145_11, i145_12, i145_14, i145_17, i145_18, i145_19, i145_22, i145_25, i145_26, i145_38, nl_i, nl_r, nl_0, nl_j, nb0, nb1, nbI, orv_s, konN_v, konN_n, konN_e, true_and, and_true, and_self, if_true, if_false, ite_true, ite_false, isR_ref, true_or, or_true, isR_null, rg10, rg11, rg12, rg13, rg14, rg15, rg16, rh13, rh14, rh15, rh16, bI_T, bI_F, bI_Fb, i1z, Bool.false_eq_true, h0, k1, k2, i1z, show Int32.toNatClampNeg 16 = 16 from by decide, show (¬ ((16 : Int32) < 0 ∨ 60000000 < 16)) = True from eq_true (by decide)]
theorem s_ncap {c : Nat} (h0 : hk h i = 21) (h1 : hF h i 0 = .ref b) (h2 : hF h i 1 = .int 0) (h3 : hk h b = 11) (h4 : hl h b = c) (hc : c < m) (hm : m ≤ 1000) {d : Nat} {K : AO → AH → Prop} : EvM (d + 2) 148 [.ref i, .int (nI m)] h K = K (.inl (some (.int (nI (c + (if m - c < c + 2 then c + 2 else m - c)))))) h := by
  have e1 : nI m - nI c = nI (m - c) := nI_sub (by omega)
  have e2 : nI c + 2 = nI (c + 2) := nI_add c 2
  have sh2 : (2 : Int32) <<< ((0 : Int32) &&& 31) = 2 := by decide
  obtain ⟨G, hG⟩ : ∃ G, G = if m - c < c + 2 then c + 2 else m - c := ⟨_, rfl⟩
  have hGb : G ≤ 1002 := by rw [hG]; split <;> omega
  have hG0 : 1 ≤ G := by rw [hG]; split <;> omega
  have e3 : (if nI (m - c) < nI (c + 2) then nI (c + 2) else nI (m - c)) = nI G := by
    simp only [nI_lI (show m - c < 2 ^ 31 by omega) (show c + 2 < 2 ^ 31 by omega), hG]
    split <;> rfl
  have e4 : nI c + nI G = nI (c + G) := nI_add c G
  have g0 : (nI (c + G) ≤ 0) = False := eq_false (fun y => by rw [i32_le, nI_toInt (by omega)] at y; have y : ((c + G : Nat) : Int) ≤ 0 := y; omega)
  have g1 : ((2147483639 : Int32) < nI (c + G)) = False := eq_false (fun y => by rw [i32_lt, nI_toInt (by omega)] at y; have y : (2147483639 : Int) < ((c + G : Nat) : Int) := y; omega)
  have g2 : (nI (c + G) = 2147483647) = False := eq_false (fun y => by have := congrArg Int32.toInt y; rw [nI_toInt (by omega)] at this; have this : ((c + G : Nat) : Int) = 2147483647 := this; omega)
  rw [← hG]
  simp only [in148, i148_0, i148_1, i148_4, i148_5, i148_6, i148_7, i148_8, i148_11, i148_12, i148_13, i148_14, i148_15, i148_16, i148_18, i148_19, i148_21, i148_22, i148_23, i148_24, i148_27, i148_28, i148_29, i148_32, i148_34, i148_36, i148_38, i148_44, i148_51, i148_53, i148_54, i148_57, i148_58, in161, i161_0, i161_1, i161_2, i161_3, i161_6, i161_7, i161_8, i161_9, i161_10, i161_13, i161_14, i161_16, i161_19, i161_20, i161_21, i161_22, nl_i, nl_r, nl_0, nl_j, nb0, nb1, nbI, orv_s, konN_v, konN_n, konN_e, true_and, and_true, and_self, if_true, if_false, ite_true, ite_false, isR_ref, true_or, or_true, isR_null, rg10, rg11, rg12, rg13, rg14, rg15, rg16, rh13, rh14, rh15, rh16, bI_T, bI_F, bI_Fb, i1z, Bool.false_eq_true, h0, h1, h2, h3, h4, shl0, e1, e2, sh2, e3, e4, g0, g1, g2, sh0 (show c + G < 2 ^ 31 by omega)]
theorem s_ens (x : SBr h i b cap bs) (hm : m ≤ 1000) : ∃ h' b' cap', (Sm (fun x => x = i) h h' ∧ hN h' ≤ hN h + 1 ∧ hS h' ≤ hS h + 2010) ∧ (SBr h' i b' cap' bs ∧ m ≤ cap' ∧ (b' = b ∨ b' = hN h)) ∧ ∀ d K, EvM (d + 3) 147 [.ref i, .int (nI m)] h K = K (.inl none) h' := by
  have nb := x.ne
  have x0 := x
  obtain ⟨⟨a1, a2, a3, a4⟩, ⟨b1, b2⟩, ⟨c1, c2⟩, ⟨d1, d2⟩, ⟨e1, e2⟩, f1, f2⟩ := x0
  have ec : (nI m - nI cap ≤ 0) = (m ≤ cap) := by
    rw [i32_le, i32_sub (by rw [nI_toInt (by omega), nI_toInt (by omega)]; omega) (by rw [nI_toInt (by omega), nI_toInt (by omega)]; omega), nI_toInt (by omega), nI_toInt (by omega)]
    show ((m : Int) - (cap : Int) ≤ 0) = _
    exact propext ⟨fun _ => by omega, fun _ => by omega⟩
  by_cases hc : m ≤ cap
  · refine ⟨h, b, cap, ⟨Sm.rf, by omega, by omega⟩, ⟨x, hc, Or.inl rfl⟩, fun d K => ?_⟩
    simp only [in147, i147_0, i147_1, i147_4, i147_5, i147_6, i147_9, i147_10, i147_11, i147_12, i147_13, i147_14, i147_17, i147_18, i147_19, i147_22, i147_23, i147_24, i147_27, i147_28, i147_31, i147_32, i147_35, i147_38, nl_i, nl_r, nl_0, nl_j, nb0, nb1, nbI, orv_s, konN_v, konN_n, konN_e, true_and, and_true, and_self, if_true, if_false, ite_true, ite_false, isR_ref, true_or, or_true, isR_null, rg10, rg11, rg12, rg13, rg14, rg15, rg16, rh13, rh14, rh15, rh16, bI_T, bI_F, bI_Fb, i1z, Bool.false_eq_true, a1, a2, a3, b1, b2, sh0 (show cap < 2 ^ 31 by omega), ec, hc]
  · obtain ⟨C, hC⟩ : ∃ C, C = cap + (if m - cap < cap + 2 then cap + 2 else m - cap) := ⟨_, rfl⟩
    have hC1 : m ≤ C ∧ cap < C ∧ C ≤ 2010 := by rw [hC]; split <;> omega
    have sA : Sm noW h (alA h 11 C) := Sm.alA
    obtain ⟨h1, hh1⟩ : ∃ x, x = wA (alA h 11 C) (hN h) (va_cpy (hA h b) (fun _ => 0) 0 0 cap) := ⟨_, rfl⟩
    have s1 : Sm noW h h1 := by
      rw [hh1]
      exact ((sA.mo (V := fun x => x = hN h) (fun _ _ z => z.elim)).tr (Sm.wA rfl)).mo (fun i hi z => by omega)
    have kn : hk h1 (hN h) = 11 ∧ hl h1 (hN h) = C := by rw [hh1]; exact ⟨alA_k, alA_l⟩
    have an : ∀ j, hA h1 (hN h) j = if j < cap then hA h b j else 0 := fun j => by
      rw [hh1, wA_eq]
      show (if 0 ≤ j ∧ j < 0 + cap then hA h b (0 + (j - 0)) else 0) = _
      by_cases e : j < cap
      · rw [if_pos ⟨by omega, by omega⟩, if_pos e, show 0 + (j - 0) = j by omega]
      · rw [if_neg (by omega), if_neg e]
    refine ⟨wF h1 i 0 (.ref (hN h)), hN h, C, ⟨(s1.mo (fun _ _ z => z.elim)).tr (Sm.wF rfl), by rw [hh1]; exact Nat.le_refl _, by rw [hh1]; show hS h + C ≤ _; omega⟩, ⟨⟨⟨?_, wF_eq, ?_, ?_⟩, kn, ⟨by omega, by omega⟩, ⟨?_, ?_⟩, ⟨fun j hj => ?_, fun j hj => ?_⟩, f1, f2⟩, hC1.1, Or.inr rfl⟩, fun d K => ?_⟩
    · exact (s1.k d1).trans a1
    · rw [wF_nk (by omega), s1.F d1 (fun z => z)]; exact a3
    · rw [wF_nk (by omega), s1.F d1 (fun z => z)]; exact a4
    · rw [hh1]; show i < hN h + 1; omega
    · rw [hh1]; show hN h < hN h + 1; omega
    · show hA h1 (hN h) j = _
      rw [an, if_pos (by omega)]; exact e1 j hj
    · show -128 ≤ hA h1 (hN h) j ∧ hA h1 (hN h) j ≤ 127
      rw [an]
      by_cases e : j < cap
      · rw [if_pos e]; exact e2 j e
      · rw [if_neg e]; exact (by decide : (-128 : Int32) ≤ 0 ∧ (0 : Int32) ≤ 127)
    · have nc : (nI C = nI cap) = False := eq_false (fun y => by have := nI_inj (by omega) (by omega) y; omega)
      have mc : (if nI C < nI cap then nI C else nI cap) = nI cap := by simp only [nI_lI (show C < 2 ^ 31 by omega) (show cap < 2 ^ 31 by omega), if_neg (show ¬ C < cap by omega)]
      have mc2 : (if nI C < nI cap then nI C else nI cap) = nI cap := mc
      have kb : hk (alA h 11 C) b = 11 := (sA.k d2).trans b1
      have lb : hl (alA h 11 C) b = cap := (sA.l d2).trans b2
      have ab : hA (alA h 11 C) b = hA h b := sA.A d2 (fun z => z)
      have kn' : hk (alA h 11 C) (hN h) = 11 := alA_k
      have ln' : hl (alA h 11 C) (hN h) = C := alA_l
      have an' : hA (alA h 11 C) (hN h) = fun _ => 0 := alA_A
      have n0 : (nI cap < 0) = False := eq_false (nI_pos (by omega))
      have z0 : ((0 : Int32) < 0) = False := eq_false (by decide)
      have bo : byOK (hA h b) 0 cap := fun j hj => by rw [Nat.zero_add]; exact e2 j hj
      have k1 : hk h1 i = 21 := (s1.k d1).trans a1
      have q1 : (∀ j, j < cap → -128 ≤ hA h b (0 + j) ∧ hA h b (0 + j) ≤ 127) = True := eq_true bo
      simp only [in147, i147_0, i147_1, i147_4, i147_5, i147_6, i147_9, i147_10, i147_11, i147_12, i147_13, i147_14, i147_17, i147_18, i147_19, i147_22, i147_23, i147_24, i147_27, i147_28, i147_31, i147_32, i147_35, i147_38, in157, i157_0, i157_1, i157_2, i157_3, i157_6, i157_7, i157_10, i157_13, i157_14, i157_15, i157_17, i157_18, i157_19, i157_20, i157_21, i157_22, i157_23, i157_24, i157_25, i157_28_r, i157_31, i157_32, nl_i, nl_r, nl_0, nl_j, nb0, nb1, nbI, orv_s, konN_v, konN_n, konN_e, true_and, and_true, and_self, if_true, if_false, ite_true, ite_false, isR_ref, true_or, or_true, isR_null, rg10, rg11, rg12, rg13, rg14, rg15, rg16, rh13, rh14, rh15, rh16, bI_T, bI_F, bI_Fb, i1z, Bool.false_eq_true, a1, a2, a3, b1, b2, sh0 (show cap < 2 ^ 31 by omega), ec, hc, s_ncap a1 a2 a3 b1 b2 (show cap < m by omega) hm, ← hC, shl0, nc, nI_clamp (show C < 2 ^ 31 by omega), nI_clamp (show cap < 2 ^ 31 by omega), len_ok (show C ≤ 60000000 by omega), kb, lb, ab, kn', ln', an', mc, n0, z0, zn_0, not_false_eq_true, Nat.zero_add, Nat.le_refl, show cap ≤ C by omega, q1, ← hh1, k1]
end SBS
