/-! THE LAW'S START: an object, a buffer, random numbers, a line -/
section BEG
variable {x : Nat × (Nat × (Nat → Int32))} {L iv : Nat} {xs : Nat → Int32} {F : AH} {U S A : Nat → Nat → Int32} {J : Nat → Nat → Int64} {G : Nat → Nat} {T : Nat → Bool} {l3 l4 l5 l6 l7 l8 l9 l10 l11 l12 l13 l14 l15 l16 l17 l18 l19 l20 l21 l22 l23 l24 : Option Value}
theorem kk_00 : hk (Pq x lx0) 0 = 6 := Pq_k.trans (by decide +kernel)
theorem n_00 : hN (h0s x) = 0 := rfl
theorem seg_a (hx : x.2 = (L, xs)) (hi : iv < L) (hi2 : iv < 2) (hL : L < 2 ^ 30) : ∀ d Q, Es (d + 30) 142 4 [some scrV, some (.int 1), some (.int (nI iv)), l3, l4, l5, l6, l7, l8, l9, l10, l11, l12, l13, l14, l15, l16, l17, l18, l19, l20, l21, l22, l23, l24] [] (h0s x) Q = Es (d + 30) 142 27 [some scrV, some (.int 1), some (.int (nI iv)), some (.ref 0), l4, l5, l6, l7, l8, l9, l10, l11, l12, l13, l14, l15, l16, l17, l18, l19, l20, l21, l22, l23, l24] [] (Pq x lx14) Q := fun d Q => by
  have c1 : (nI L ≤ nI iv) = False := eq_false (fun z => by
    have := (nI_leI (a := L) (b := iv) (by omega) (by omega)).mp z
    omega)
  have c2 : ((2 : Int32) ≤ nI iv) = False := eq_false (fun z => by
    have := (nI_leI (a := 2) (b := iv) (by omega) (by omega)).mp z
    omega)
  have p1 : (hX (h0s x)).1 = L := congrArg Prod.fst hx
  have iR : (isR scrV = true) = True := eq_true rfl
  rw [e142_4]
  simp only [e142_5, e142_6, e142_7, e142_10, e142_11, e142_12, e142_15, e142_16, e142_19, e142_22, e142_23, e142_26, nl_i, nl_r, nl_0, nl_j, nb0, nb1, nbI, orv_s, konN_v, konN_n, konN_e, true_and, and_true, and_self, if_true, if_false, ite_true, ite_false, isR_ref, true_or, or_true, isR_null, rg10, rg11, rg12, rg13, rg14, rg15, rg16, rh13, rh14, rh15, rh16, bI_T, bI_F, bI_Fb, i1z, Bool.false_eq_true, ksN_v, ksN_n, nl_scr, iR, p1, c1, c2, i1n0, n_00, e_0, kk_00, s_classInit, nl_scr]
theorem seg_b (hF : hN F = 140) (hx : hX F = (L, xs)) (hi : iv < L) (hi2 : iv < 2) (hL : L < 2 ^ 30) : ∀ d Q, Es (d + 30) 142 27 [some scrV, some (.int 1), some (.int (nI iv)), some (.ref 0), l4, l5, l6, l7, l8, l9, l10, l11, l12, l13, l14, l15, l16, l17, l18, l19, l20, l21, l22, l23, l24] [] F Q = Es (d + 30) 142 45 [some scrV, some (.int 1), some (.int (nI iv)), some (.ref 0), some (.ref 140), some (.ref 141), l6, l7, l8, l9, l10, l11, l12, l13, l14, l15, l16, l17, l18, l19, l20, l21, l22, l23, l24] [] (wF (alO (alA F 10 8) 9 1 (dfl 8)) 141 0 (.int (xs iv))) Q := fun d Q => by
  have k8 : (¬ ((8 : Int32) < 0 ∨ 60000000 < 8)) = True := eq_true (by decide)
  have z8 : Int32.toNatClampNeg 8 = 8 := by decide
  have n1 : hN (alA F 10 8) = 141 := by show hN F + 1 = 141; omega
  have p1 : (hX (alO (alA F 10 8) 9 1 (dfl 8))).1 = L := congrArg Prod.fst hx
  have p2 : (hX (alO (alA F 10 8) 9 1 (dfl 8))).2 = xs := congrArg Prod.snd hx
  have iz : inb (nI iv) L = True := inbT hi (by omega)
  have zz : zn (nI iv) = iv := zn_nI (by omega)
  have k9 : hk (alO (alA F 10 8) 9 1 (dfl 8)) 141 = 9 := by rw [← n1]; exact alO_k
  have iR : (isR scrV = true) = True := eq_true rfl
  simp only [e142_27, e142_29, e142_31, e142_33, e142_36, e142_37, e142_38, e142_39, e142_40, e142_43, nl_i, nl_r, nl_0, nl_j, nb0, nb1, nbI, orv_s, konN_v, konN_n, konN_e, true_and, and_true, and_self, if_true, if_false, ite_true, ite_false, isR_ref, true_or, or_true, isR_null, rg10, rg11, rg12, rg13, rg14, rg15, rg16, rh13, rh14, rh15, rh16, bI_T, bI_F, bI_Fb, i1z, Bool.false_eq_true, ksN_v, ksN_n, nl_scr, in101, i101_0, i101_1, i101_4, i101_5, i101_6, i101_9, k8, z8, hF, n1, p1, p2, iz, zz, k9, iR]
end BEG
