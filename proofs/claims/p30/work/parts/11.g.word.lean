/-! WORDS OF FOUR BYTES -/
theorem i8_rt {y : Int8} : y.toInt32.toInt8 = y := by simp
def cb (w s : Int32) : Int32 := ((w.toUInt32 >>> (s.toUInt32 &&& Int32.toUInt32 31)).toInt32).toInt8.toInt32
def pw (g : Nat → Int32) (f : Nat) (w : Int32) : Nat → Int32 := upd (upd (upd (upd g f (cb w 24)) (f + 1) (cb w 16)) (f + 1 + 1) (cb w 8)) (f + 1 + 1 + 1) (cb w 0)
theorem up2_up2 {S : Nat → Nat → Int32} {x y : Nat} {v w : Int32} : up2 (up2 S x y v) x y w = up2 S x y w := by
  funext i k
  unfold up2
  split
  · rfl
  · rfl
section AP
variable {d : Nat} {h : AH} {T : Nat → Bool} {U S A : Nat → Nat → Int32} {J : Nat → Nat → Int64} {G : Nat → Nat} {K : AO → AH → Prop} {w w0 w1 w2 w3 w4 : Int32} {fl f : Nat} {l7 : Option Value}
theorem s_putWord (hf : S 13 1 = nI f) (h4 : f + 4 ≤ 700) : EvM d 32 [.ref 13, .int w] (MH h T U S A J G) K = K (.inl none) (MH h T U (up2 S 13 1 (nI (f + 1 + 1 + 1 + 1))) (upf A 14 (pw (A 14) f w)) J G) := by
  have hh : ∀ j, j < 700 → ((700 : Int32) ≤ nI j) = False := fun j hj => eq_false (fun y => by
    have := (nI_leI (a := 700) (b := j) (by omega) (by omega)).mp y
    omega)
  have g0 := hh f (by omega)
  have g1 := hh (f + 1) (by omega)
  have g2 := hh (f + 1 + 1) (by omega)
  have g3 := hh (f + 1 + 1 + 1) (by omega)
  have b0 := inbT (show f < 700 by omega) (show 700 < 2 ^ 31 by omega)
  have b1 := inbT (show f + 1 < 700 by omega) (show 700 < 2 ^ 31 by omega)
  have b2 := inbT (show f + 1 + 1 < 700 by omega) (show 700 < 2 ^ 31 by omega)
  have b3 := inbT (show f + 1 + 1 + 1 < 700 by omega) (show 700 < 2 ^ 31 by omega)
  have z0 := zn_nI (show f < 2 ^ 31 by omega)
  have z1 := zn_nI (show f + 1 < 2 ^ 31 by omega)
  have z2 := zn_nI (show f + 1 + 1 < 2 ^ 31 by omega)
  have z3 := zn_nI (show f + 1 + 1 + 1 < 2 ^ 31 by omega)
  simp only [i32_0, i32_2, in32, nl_i, nl_r, nl_0, nl_j, nb0, nb1, nbI, orv_s, konN_v, konN_n, konN_e, true_and, and_true, and_self, if_true, if_false, ite_true, ite_false, isR_ref, true_or, or_true, isR_null, rg10, rg11, rg12, rg13, rg14, rg15, rg16, rh13, rh14, rh15, rh16, bI_T, bI_F, bI_Fb, i1z, Bool.false_eq_true]
  rw [i32_3]
  simp only [i32_4, i32_7, i32_8, i32_11, i32_14, i32_17, i32_18, i32_21, i32_22, i32_25, i32_26, i32_27, i32_28, i32_29, i32_30, i32_31, i32_32, i32_35, i32_36, i32_37, i32_40, i32_43, nl_i, nl_r, nl_0, nl_j, nb0, nb1, nbI, orv_s, konN_v, konN_n, konN_e, true_and, and_true, and_self, if_true, if_false, ite_true, ite_false, isR_ref, true_or, or_true, isR_null, rg10, rg11, rg12, rg13, rg14, rg15, rg16, rh13, rh14, rh15, rh16, bI_T, bI_F, bI_Fb, i1z, Bool.false_eq_true, k_13, k_14, l_14, a_14, wa_14, k_15, l_15, a_15, wa_15, f_13_0, f_13_9, f_13_11, w_13_9, f_13_1, f_13_2, f_13_3, f_13_4, f_13_5, f_13_6, f_13_7, f_13_8, f_13_10, f_13_12, w_13_1, w_13_2, w_13_3, w_13_4, w_13_5, w_13_6, w_13_7, w_13_8, w_13_10, w_13_12, pS_b, pS_up, mh_N, mh_S, mh_X, mh_alH, show ((24 : Int32) < 0) = False from eq_false (by decide), hf, up2_same, g0, b0, z0, i8_rt, upf_same, upf_upf, up2_up2, nI_1, show (24 : Int32) + (-8) = 16 from rfl]
  rw [i32_3]
  simp only [i32_4, i32_7, i32_8, i32_11, i32_14, i32_17, i32_18, i32_21, i32_22, i32_25, i32_26, i32_27, i32_28, i32_29, i32_30, i32_31, i32_32, i32_35, i32_36, i32_37, i32_40, i32_43, nl_i, nl_r, nl_0, nl_j, nb0, nb1, nbI, orv_s, konN_v, konN_n, konN_e, true_and, and_true, and_self, if_true, if_false, ite_true, ite_false, isR_ref, true_or, or_true, isR_null, rg10, rg11, rg12, rg13, rg14, rg15, rg16, rh13, rh14, rh15, rh16, bI_T, bI_F, bI_Fb, i1z, Bool.false_eq_true, k_13, k_14, l_14, a_14, wa_14, k_15, l_15, a_15, wa_15, f_13_0, f_13_9, f_13_11, w_13_9, f_13_1, f_13_2, f_13_3, f_13_4, f_13_5, f_13_6, f_13_7, f_13_8, f_13_10, f_13_12, w_13_1, w_13_2, w_13_3, w_13_4, w_13_5, w_13_6, w_13_7, w_13_8, w_13_10, w_13_12, pS_b, pS_up, mh_N, mh_S, mh_X, mh_alH, show ((16 : Int32) < 0) = False from eq_false (by decide), hf, up2_same, g1, b1, z1, i8_rt, upf_same, upf_upf, up2_up2, nI_1, show (16 : Int32) + (-8) = 8 from rfl]
  rw [i32_3]
  simp only [i32_4, i32_7, i32_8, i32_11, i32_14, i32_17, i32_18, i32_21, i32_22, i32_25, i32_26, i32_27, i32_28, i32_29, i32_30, i32_31, i32_32, i32_35, i32_36, i32_37, i32_40, i32_43, nl_i, nl_r, nl_0, nl_j, nb0, nb1, nbI, orv_s, konN_v, konN_n, konN_e, true_and, and_true, and_self, if_true, if_false, ite_true, ite_false, isR_ref, true_or, or_true, isR_null, rg10, rg11, rg12, rg13, rg14, rg15, rg16, rh13, rh14, rh15, rh16, bI_T, bI_F, bI_Fb, i1z, Bool.false_eq_true, k_13, k_14, l_14, a_14, wa_14, k_15, l_15, a_15, wa_15, f_13_0, f_13_9, f_13_11, w_13_9, f_13_1, f_13_2, f_13_3, f_13_4, f_13_5, f_13_6, f_13_7, f_13_8, f_13_10, f_13_12, w_13_1, w_13_2, w_13_3, w_13_4, w_13_5, w_13_6, w_13_7, w_13_8, w_13_10, w_13_12, pS_b, pS_up, mh_N, mh_S, mh_X, mh_alH, show ((8 : Int32) < 0) = False from eq_false (by decide), hf, up2_same, g2, b2, z2, i8_rt, upf_same, upf_upf, up2_up2, nI_1, show (8 : Int32) + (-8) = 0 from rfl]
  rw [i32_3]
  simp only [i32_4, i32_7, i32_8, i32_11, i32_14, i32_17, i32_18, i32_21, i32_22, i32_25, i32_26, i32_27, i32_28, i32_29, i32_30, i32_31, i32_32, i32_35, i32_36, i32_37, i32_40, i32_43, nl_i, nl_r, nl_0, nl_j, nb0, nb1, nbI, orv_s, konN_v, konN_n, konN_e, true_and, and_true, and_self, if_true, if_false, ite_true, ite_false, isR_ref, true_or, or_true, isR_null, rg10, rg11, rg12, rg13, rg14, rg15, rg16, rh13, rh14, rh15, rh16, bI_T, bI_F, bI_Fb, i1z, Bool.false_eq_true, k_13, k_14, l_14, a_14, wa_14, k_15, l_15, a_15, wa_15, f_13_0, f_13_9, f_13_11, w_13_9, f_13_1, f_13_2, f_13_3, f_13_4, f_13_5, f_13_6, f_13_7, f_13_8, f_13_10, f_13_12, w_13_1, w_13_2, w_13_3, w_13_4, w_13_5, w_13_6, w_13_7, w_13_8, w_13_10, w_13_12, pS_b, pS_up, mh_N, mh_S, mh_X, mh_alH, show ((0 : Int32) < 0) = False from eq_false (by decide), hf, up2_same, g3, b3, z3, i8_rt, upf_same, upf_upf, up2_up2, nI_1, show (0 : Int32) + (-8) = -8 from rfl]
  rw [i32_3]
  simp only [i32_4, i32_7, i32_8, i32_11, i32_14, i32_17, i32_18, i32_21, i32_22, i32_25, i32_26, i32_27, i32_28, i32_29, i32_30, i32_31, i32_32, i32_35, i32_36, i32_37, i32_40, i32_43, i32_46, nl_i, nl_r, nl_0, nl_j, nb0, nb1, nbI, orv_s, konN_v, konN_n, konN_e, true_and, and_true, and_self, if_true, if_false, ite_true, ite_false, isR_ref, true_or, or_true, isR_null, rg10, rg11, rg12, rg13, rg14, rg15, rg16, rh13, rh14, rh15, rh16, bI_T, bI_F, bI_Fb, i1z, Bool.false_eq_true, show ((-8 : Int32) < 0) = True from eq_true (by decide)]
  rfl
theorem nI_20 {f : Nat} : nI f + 20 = nI (f + 20) := nI_add f 20
theorem s_append (hf : S 13 1 = nI f) (h4 : f + 20 ≤ 700) : EvM (d + 1) 52 [.ref 0, .int w0, .int w1, .int w2, .int w3, .int w4] (MH h T U S A J G) K = K (.inl (some (.int (nI (f + 20))))) (MH h T U (up2 S 13 1 (nI (f + 20))) (upf A 14 (pw (pw (pw (pw (pw (A 14) f w0) (f + 4) w1) (f + 8) w2) (f + 12) w3) (f + 16) w4)) J G) := by
  have g0 : ((700 : Int32) < nI (f + 20)) = False := eq_false (fun y => by rw [i32_lt, nI_toInt (by omega)] at y; have y : (700 : Int) < ((f + 20 : Nat) : Int) := y; omega)
  have g0' : (nI (f + 20) ≤ (700 : Int32)) = True := eq_true (by rw [i32_le, nI_toInt (by omega)]; show ((f + 20 : Nat) : Int) ≤ 700; omega)
  have p := fun f (S : Nat → Nat → Int32) (A : Nat → Nat → Int32) (hf : S 13 1 = nI f) (h4 : f + 4 ≤ 700) w K => s_putWord (d := d) (h := h) (T := T) (U := U) (S := S) (A := A) (J := J) (G := G) (w := w) (K := K) hf h4
  have p0 := p f S A hf (by omega)
  have p1 := p (f + 4) (up2 S 13 1 (nI (f + 4))) (upf A 14 (pw (A 14) f w0)) up2_same (by omega)
  have p2 := p (f + 8) (up2 S 13 1 (nI (f + 8))) (upf A 14 (pw (pw (A 14) f w0) (f + 4) w1)) up2_same (by omega)
  have p3 := p (f + 12) (up2 S 13 1 (nI (f + 12))) (upf A 14 (pw (pw (pw (A 14) f w0) (f + 4) w1) (f + 8) w2)) up2_same (by omega)
  have p4 := p (f + 16) (up2 S 13 1 (nI (f + 16))) (upf A 14 (pw (pw (pw (pw (A 14) f w0) (f + 4) w1) (f + 8) w2) (f + 12) w3)) up2_same (by omega)
  simp only [upf_same, upf_upf, up2_up2, Nat.add_assoc, Nat.reduceAdd] at p0 p1 p2 p3 p4
  simp only [in52, i52_0, i52_1, i52_4, i52_7, i52_9, i52_10, i52_13, i52_16, i52_17, i52_18, i52_19, i52_22, i52_23, i52_26, i52_27, i52_30, i52_31, i52_34, i52_35, i52_38, i52_39, i52_42, i52_43, i52_46, i52_48, i52_51, i52_52, i52_55, i52_57, i52_60, i52_61, i52_64, i52_67, nl_i, nl_r, nl_0, nl_j, nb0, nb1, nbI, orv_s, konN_v, konN_n, konN_e, true_and, and_true, and_self, if_true, if_false, ite_true, ite_false, isR_ref, true_or, or_true, isR_null, rg10, rg11, rg12, rg13, rg14, rg15, rg16, rh13, rh14, rh15, rh16, bI_T, bI_F, bI_Fb, i1z, Bool.false_eq_true, k_0, f_0_0, k_13, f_13_1, hf, nI_20, g0, g0', p0, p1, p2, p3, p4, up2_same]
end AP
def w4 (c0 c1 c2 c3 : Nat) : Nat := c0 * 16777216 + c1 * 65536 + c2 * 256 + c3
theorem or_nI (a b : Nat) : nI a ||| nI b = nI (a ||| b) := by
  refine Int32.toBitVec_inj.mp ?_
  show BitVec.ofNat 32 a ||| BitVec.ofNat 32 b = BitVec.ofNat 32 (a ||| b)
  exact BitVec.eq_of_toNat_eq (by rw [BitVec.toNat_or, BitVec.toNat_ofNat, BitVec.toNat_ofNat, BitVec.toNat_ofNat, Nat.or_mod_two_pow])
theorem or_add {a b k : Nat} (hb : b < 2 ^ k) : nI (a * 2 ^ k) ||| nI b = nI (a * 2 ^ k + b) := by
  rw [or_nI]
  congr 1
  rw [← Nat.shiftLeft_eq, Nat.shiftLeft_add_eq_or_of_lt hb]
theorem sh_24 : ∀ c, c < 128 → nI c <<< ((24 : Int32) &&& 31) = nI (c * 16777216) := by decide +kernel
theorem sh_16 : ∀ c, c < 128 → nI c <<< ((16 : Int32) &&& 31) = nI (c * 65536) := by decide +kernel
theorem sh_8 : ∀ c, c < 128 → nI c <<< ((8 : Int32) &&& 31) = nI (c * 256) := by decide +kernel
theorem sh_0 : ∀ c, c < 128 → nI c <<< ((0 : Int32) &&& 31) = nI c := by decide +kernel
theorem ush {W k : Nat} {s : Int32} (hW : W < 2 ^ 31) (hk : k < 32) (hs : (s.toUInt32 &&& Int32.toUInt32 31).toNat = k) : ((nI W).toUInt32 >>> (s.toUInt32 &&& Int32.toUInt32 31)).toInt32 = nI (W / 2 ^ k) := by
  refine Int32.toBitVec_inj.mp ?_
  show ((nI W).toUInt32 >>> (s.toUInt32 &&& Int32.toUInt32 31)).toBitVec = BitVec.ofNat 32 (W / 2 ^ k)
  refine BitVec.eq_of_toNat_eq ?_
  rw [UInt32.toNat_toBitVec, UInt32.toNat_shiftRight, hs, Nat.mod_eq_of_lt hk, Nat.shiftRight_eq_div_pow, BitVec.toNat_ofNat]
  have e : (nI W).toUInt32.toNat = W := by
    show (BitVec.ofNat 32 W).toNat = W
    rw [BitVec.toNat_ofNat]
    exact Nat.mod_eq_of_lt (by omega)
  rw [e, Nat.mod_eq_of_lt]
  exact Nat.lt_of_le_of_lt (Nat.div_le_self _ _) (by omega)
theorem i8_mod {v c : Nat} (h : v % 256 = c) (hc : c < 128) : (nI v).toInt8.toInt32 = nI c := by
  have e : (nI v).toInt8 = (nI c).toInt8 := by
    refine Int8.toBitVec_inj.mp ?_
    show BitVec.signExtend 8 (BitVec.ofNat 32 v) = BitVec.signExtend 8 (BitVec.ofNat 32 c)
    rw [BitVec.signExtend_eq_setWidth_of_le _ (by decide), BitVec.signExtend_eq_setWidth_of_le _ (by decide)]
    refine BitVec.eq_of_toNat_eq ?_
    rw [BitVec.toNat_setWidth, BitVec.toNat_setWidth, BitVec.toNat_ofNat, BitVec.toNat_ofNat]
    omega
  rw [e]
  exact byte1 c hc
theorem cb_w4 {c0 c1 c2 c3 : Nat} (h0 : c0 < 128) (h1 : c1 < 128) (h2 : c2 < 128) (h3 : c3 < 128) : cb (nI (w4 c0 c1 c2 c3)) 24 = nI c0 ∧ cb (nI (w4 c0 c1 c2 c3)) 16 = nI c1 ∧ cb (nI (w4 c0 c1 c2 c3)) 8 = nI c2 ∧ cb (nI (w4 c0 c1 c2 c3)) 0 = nI c3 := by
  have hW : w4 c0 c1 c2 c3 < 2 ^ 31 := by unfold w4; omega
  refine ⟨?_, ?_, ?_, ?_⟩
  · unfold cb
    rw [ush (k := 24) hW (by decide) (by decide)]
    exact i8_mod (by unfold w4; omega) h0
  · unfold cb
    rw [ush (k := 16) hW (by decide) (by decide)]
    exact i8_mod (by unfold w4; omega) h1
  · unfold cb
    rw [ush (k := 8) hW (by decide) (by decide)]
    exact i8_mod (by unfold w4; omega) h2
  · unfold cb
    rw [ush (k := 0) hW (by decide) (by decide)]
    exact i8_mod (by unfold w4; omega) h3
