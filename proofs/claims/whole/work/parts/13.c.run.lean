/-! THE CONSTRUCTORS: the run up to the loop -/
def lx0 : List Op := [(0, 6, 4, .null)]
def lx1 : List Op := lx0 ++ [(0, 4, 11, .null)]
def lx2 : List Op := lx1 ++ opSetup 1
def lx3 : List Op := lx2 ++ [(0, 5, 13, .null)]
def lx4 : List Op := lx3 ++ opReader 13
def lx5 : List Op := lx4 ++ [(2, 0, 0, .ref 13)]
def lx6 : List Op := lx5 ++ [(0, 3, 15, .null)]
def lx7 : List Op := lx6 ++ opLine 28 1
def lx8 : List Op := lx7 ++ [(2, 0, 1, .ref 28)]
def lx9 : List Op := lx8 ++ [(0, 3, 15, .null)]
def lx10 : List Op := lx9 ++ opLine 39 1
def lx11 : List Op := lx10 ++ [(2, 0, 2, .ref 39)]
def lx12 : List Op := lx11 ++ [(0, 2, 3, .null)]
def lx13 : List Op := lx12 ++ opHist 50 1
def lx14 : List Op := lx13 ++ [(2, 0, 3, .ref 50)]
def lx15 : List Op := lx14 ++ [(0, 7, 16, .null)]
def lx16 : List Op := lx15 ++ opModel
def lx17 : List Op := lx16 ++ [(1, 12, 1, .null)]
section XS
variable {x : Nat × (Nat → Int32)} {d : Nat} {h : AH} {K : AO → AH → Prop}
theorem e_0 : alO (h00 x) 6 4 (dfl 5) = Pq x lx0 := rfl
theorem e_1 : alO (Pq x lx0) 4 11 (dfl 3) = Pq x lx1 := Pq_o
theorem e_3 : alO (Pq x lx2) 5 13 (dfl 4) = Pq x lx3 := Pq_o
theorem e_5 : wF (Pq x lx4) 0 0 (.ref 13) = Pq x lx5 := Pq_f
theorem e_6 : alO (Pq x lx5) 3 15 (dfl 2) = Pq x lx6 := Pq_o
theorem e_8 : wF (Pq x lx7) 0 1 (.ref 28) = Pq x lx8 := Pq_f
theorem e_9 : alO (Pq x lx8) 3 15 (dfl 2) = Pq x lx9 := Pq_o
theorem e_11 : wF (Pq x lx10) 0 2 (.ref 39) = Pq x lx11 := Pq_f
theorem e_12 : alO (Pq x lx11) 2 3 (dfl 1) = Pq x lx12 := Pq_o
theorem e_14 : wF (Pq x lx13) 0 3 (.ref 50) = Pq x lx14 := Pq_f
theorem e_15 : alO (Pq x lx14) 7 16 (dfl 6) = Pq x lx15 := Pq_o
theorem e_17 : alA (Pq x lx16) 12 1 = Pq x lx17 := Pq_a
theorem n_0 : hN (Pq x lx0) = 1 := Pq_N.trans (by decide +kernel)
theorem n_1 : hN (Pq x lx1) = 2 := Pq_N.trans (by decide +kernel)
theorem n_2 : hN (Pq x lx2) = 13 := Pq_N.trans (by decide +kernel)
theorem n_3 : hN (Pq x lx3) = 14 := Pq_N.trans (by decide +kernel)
theorem n_5 : hN (Pq x lx5) = 28 := Pq_N.trans (by decide +kernel)
theorem n_6 : hN (Pq x lx6) = 29 := Pq_N.trans (by decide +kernel)
theorem n_8 : hN (Pq x lx8) = 39 := Pq_N.trans (by decide +kernel)
theorem n_9 : hN (Pq x lx9) = 40 := Pq_N.trans (by decide +kernel)
theorem n_11 : hN (Pq x lx11) = 50 := Pq_N.trans (by decide +kernel)
theorem n_12 : hN (Pq x lx12) = 51 := Pq_N.trans (by decide +kernel)
theorem n_14 : hN (Pq x lx14) = 140 := Pq_N.trans (by decide +kernel)
theorem n_15 : hN (Pq x lx15) = 141 := Pq_N.trans (by decide +kernel)
theorem n_16 : hN (Pq x lx16) = 155 := Pq_N.trans (by decide +kernel)
theorem kk_0 : hk (Pq x lx0) 0 = 6 := Pq_k.trans (by decide +kernel)
theorem kk_1 : hk (Pq x lx1) 1 = 4 := Pq_k.trans (by decide +kernel)
theorem kk_3 : hk (Pq x lx3) 13 = 5 := Pq_k.trans (by decide +kernel)
theorem kk_4 : hk (Pq x lx4) 0 = 6 := Pq_k.trans (by decide +kernel)
theorem kk_6 : hk (Pq x lx6) 28 = 3 := Pq_k.trans (by decide +kernel)
theorem kk_7 : hk (Pq x lx7) 0 = 6 := Pq_k.trans (by decide +kernel)
theorem kk_9 : hk (Pq x lx9) 39 = 3 := Pq_k.trans (by decide +kernel)
theorem kk_10 : hk (Pq x lx10) 0 = 6 := Pq_k.trans (by decide +kernel)
theorem kk_12 : hk (Pq x lx12) 50 = 2 := Pq_k.trans (by decide +kernel)
theorem kk_13 : hk (Pq x lx13) 0 = 6 := Pq_k.trans (by decide +kernel)
theorem kk_15 : hk (Pq x lx15) 140 = 7 := Pq_k.trans (by decide +kernel)
theorem c_1 : EvM (d + 3) 30 [.ref 1] (Pq x lx1) K = K (.inl none) (Pq x lx2) := by
  refine (s_setupInit (d := d + 1) n_1 kk_1).trans ?_
  rw [sd_setup n_1, Pq_l2]
  rfl
theorem c_3 : EvM (d + 3) 31 [.ref 13] (Pq x lx3) K = K (.inl none) (Pq x lx4) := by
  refine (s_readerInit (d := d) n_3 kk_3).trans ?_
  rw [sd_reader n_3, Pq_l2]
  rfl
theorem c_6 : EvM (d + 3) 6 [.ref 28, .ref 1] (Pq x lx6) K = K (.inl none) (Pq x lx7) := by
  refine (s_lineInit (d := d + 2) n_6 kk_6).trans ?_
  rw [sd_line, Pq_l2]
  rfl
theorem c_9 : EvM (d + 3) 6 [.ref 39, .ref 1] (Pq x lx9) K = K (.inl none) (Pq x lx10) := by
  refine (s_lineInit (d := d + 2) n_9 kk_9).trans ?_
  rw [sd_line, Pq_l2]
  rfl
theorem c_12 : EvM (d + 3) 3 [.ref 50, .ref 1] (Pq x lx12) K = K (.inl none) (Pq x lx13) := by
  refine (s_histInit (d := d + 1) n_12 kk_12).trans ?_
  rw [sd_hist n_12, Pq_l2]
  rfl
theorem s_classInit : EvM (d + 4) 51 [.ref 0] (Pq x lx0) K = K (.inl none) (Pq x lx14) := by
  simp only [in51, i51_0, i51_1, i51_4, i51_7, i51_8, i51_11, i51_12, i51_13, i51_16, i51_17, i51_20, i51_23, i51_24, i51_27, i51_28, i51_29, i51_32, i51_35, i51_36, i51_39, i51_40, i51_41, i51_44, i51_47, i51_48, i51_51, i51_52, i51_53, i51_56, i51_59, nl_i, nl_r, nl_0, nl_j, nb0, nb1, nbI, orv_s, konN_v, konN_n, konN_e, true_and, and_true, and_self, if_true, if_false, ite_true, ite_false, isR_ref, true_or, or_true, bI_T, bI_F, bI_Fb, i1z, Bool.false_eq_true, eq_self, e_1, e_3, e_5, e_6, e_8, e_9, e_11, e_12, e_14, n_0, n_2, n_5, n_8, n_11, kk_0, kk_1, kk_3, kk_4, kk_6, kk_7, kk_9, kk_10, kk_12, kk_13, c_1, c_3, c_6, c_9, c_12]
theorem om_N {n m : Nat} : hN (alM h n m) = hN h + 1 + n := rfl
theorem om_k {n m i : Nat} : hk (alM h n m) i = if i = hN h then 14 else if hN h < i ∧ i < hN h + 1 + n then 10 else hk h i := by
  show (if i = h.1 then (14, n) else if h.1 < i ∧ i < h.1 + 1 + n then (10, m) else h.2.2.1 i).1 = if i = h.1 then 14 else if h.1 < i ∧ i < h.1 + 1 + n then 10 else (h.2.2.1 i).1
  split
  · rfl
  · split <;> rfl
theorem s_modelInit (hs : hN h = 141) (hk7 : hk h 140 = 7) : EvM (d + 1) 87 [.ref 140] h K = K (.inl none) (opModel.foldl ap h) := by
  have z700 : Int32.toNatClampNeg 700 = 700 := by decide
  have b700 : ((700 : Int32) < 0) = False := eq_false (by decide)
  have z1451 : Int32.toNatClampNeg 1451 = 1451 := by decide
  have b1451 : ((1451 : Int32) < 0) = False := eq_false (by decide)
  have z8 : Int32.toNatClampNeg 8 = 8 := by decide
  have b8 : ((8 : Int32) < 0) = False := eq_false (by decide)
  have z1200 : Int32.toNatClampNeg 1200 = 1200 := by decide
  have b1200 : ((1200 : Int32) < 0) = False := eq_false (by decide)
  unfold opModel
  simp only [List.foldl_cons, List.foldl_nil, ap_1, ap_2, ap_4, in87, i87_0, i87_1, i87_4, i87_5, i87_8, i87_10, i87_13, i87_14, i87_15, i87_18, i87_19, i87_22, i87_24, i87_27, i87_28, i87_31, i87_33, i87_36, i87_37, i87_40, i87_42, i87_45, i87_46, i87_48, i87_51, i87_55, i87_58, i87_59, i87_62, i87_64, i87_67, nl_i, nl_r, nl_0, nl_j, nb0, nb1, nbI, orv_s, konN_v, konN_n, konN_e, true_and, and_true, and_self, if_true, if_false, ite_true, ite_false, isR_ref, true_or, or_true, bI_T, bI_F, bI_Fb, i1z, Bool.false_eq_true, eq_self, z700, z1451, z8, z1200, b700, b1451, b8, b1200, show (60000000 < 700) = False from eq_false (by decide), show (60000000 < 1451) = False from eq_false (by decide), show (60000000 < 8) = False from eq_false (by decide), show (60000000 < 1200) = False from eq_false (by decide), or_false, or_self, not_false_eq_true, hk7, hs, oN_A, oN_F, om_N, ok_A, ok_F, om_k, false_and, and_false, Nat.reduceAdd, Nat.reduceEqDiff, Nat.reduceLT, Nat.reduceLeDiff]
theorem c_15 : EvM (d + 1) 87 [.ref 140] (Pq x lx15) K = K (.inl none) (Pq x lx16) := by
  refine (s_modelInit n_15 kk_15).trans ?_
  rw [Pq_l2]
  rfl
theorem nl_s : nl (some scrV) = some scrV := rfl
theorem law_start {Q : AO → AH → Prop} : Ev (d + 41) 182 0 [some scrV, none, none, none, none, none, none] [] (h00 x) Q = Ev (d + 41) 182 23 [some scrV, some (.ref 0), some (.ref 140), some (.ref 155), some (.int (nI 0)), none, none] [] (Pq x lx17) Q := by
  have z1 : Int32.toNatClampNeg 1 = 1 := by decide
  have b1 : ((1 : Int32) < 0) = False := eq_false (by decide)
  have n0 : hN (h00 x) = 0 := rfl
  have cI : ∀ K, EvM (d + 40) 51 [.ref 0] (Pq x lx0) K = K (.inl none) (Pq x lx14) := fun K => s_classInit (x := x) (d := d + 36) (K := K)
  have cM : ∀ K, EvM (d + 40) 87 [.ref 140] (Pq x lx15) K = K (.inl none) (Pq x lx16) := fun K => c_15 (x := x) (d := d + 39) (K := K)
  rw [nI_0]
  simp only [i182_0, i182_3, i182_4, i182_7, i182_8, i182_11, i182_12, i182_15, i182_16, i182_17, i182_19, i182_20, i182_21, nl_i, nl_r, nl_0, nl_j, nb0, nb1, nbI, orv_s, konN_v, konN_n, konN_e, true_and, and_true, and_self, if_true, if_false, ite_true, ite_false, isR_ref, true_or, or_true, bI_T, bI_F, bI_Fb, i1z, Bool.false_eq_true, eq_self, z1, b1, show (60000000 < 1) = False from eq_false (by decide), or_false, or_self, not_false_eq_true, n0, e_0, kk_0, cI, n_14, e_15, kk_15, cM, n_16, e_17, nl_s]
end XS
