/-! THE CONSTRUCTORS: the run up to the loop -/
def lx0 : List Op := [(0, 6, 4, .null)]
def lx1 : List Op := lx0 ++ [(0, 4, 11, .null)]
def lx2 : List Op := lx1 ++ opSetup 1
def lx3 : List Op := lx2 ++ [(0, 5, 13, .null)]
def lx4 : List Op := lx3 ++ opReader 13
def lx5 : List Op := lx4 ++ [(2, 0, 0, .ref 13)]
def lx6 : List Op := lx5 ++ [(0, 3, 15, .null)]
def lx7 : List Op := lx6 ++ opLine 28 1
def lx8 : List Op := lx7 ++ [(2, 0, 1, .ref 28)]
def lx9 : List Op := lx8 ++ [(0, 3, 15, .null)]
def lx10 : List Op := lx9 ++ opLine 39 1
def lx11 : List Op := lx10 ++ [(2, 0, 2, .ref 39)]
def lx12 : List Op := lx11 ++ [(0, 2, 3, .null)]
def lx13 : List Op := lx12 ++ opHist 50 1
def lx14 : List Op := lx13 ++ [(2, 0, 3, .ref 50)]
section XS
variable {x : Nat × (Nat × (Nat → Int32))} {d : Nat} {h : AH} {K : AO → AH → Prop}
theorem e_0 : alO (h0s x) 6 4 (dfl 5) = Pq x lx0 := rfl
theorem e_1 : alO (Pq x lx0) 4 11 (dfl 3) = Pq x lx1 := Pq_o
theorem e_3 : alO (Pq x lx2) 5 13 (dfl 4) = Pq x lx3 := Pq_o
theorem e_5 : wF (Pq x lx4) 0 0 (.ref 13) = Pq x lx5 := Pq_f
theorem e_6 : alO (Pq x lx5) 3 15 (dfl 2) = Pq x lx6 := Pq_o
theorem e_8 : wF (Pq x lx7) 0 1 (.ref 28) = Pq x lx8 := Pq_f
theorem e_9 : alO (Pq x lx8) 3 15 (dfl 2) = Pq x lx9 := Pq_o
theorem e_11 : wF (Pq x lx10) 0 2 (.ref 39) = Pq x lx11 := Pq_f
theorem e_12 : alO (Pq x lx11) 2 3 (dfl 1) = Pq x lx12 := Pq_o
theorem e_14 : wF (Pq x lx13) 0 3 (.ref 50) = Pq x lx14 := Pq_f
theorem n_0 : hN (Pq x lx0) = 1 := Pq_N.trans (by decide +kernel)
theorem n_1 : hN (Pq x lx1) = 2 := Pq_N.trans (by decide +kernel)
theorem n_2 : hN (Pq x lx2) = 13 := Pq_N.trans (by decide +kernel)
theorem n_3 : hN (Pq x lx3) = 14 := Pq_N.trans (by decide +kernel)
theorem n_5 : hN (Pq x lx5) = 28 := Pq_N.trans (by decide +kernel)
theorem n_6 : hN (Pq x lx6) = 29 := Pq_N.trans (by decide +kernel)
theorem n_8 : hN (Pq x lx8) = 39 := Pq_N.trans (by decide +kernel)
theorem n_9 : hN (Pq x lx9) = 40 := Pq_N.trans (by decide +kernel)
theorem n_11 : hN (Pq x lx11) = 50 := Pq_N.trans (by decide +kernel)
theorem n_12 : hN (Pq x lx12) = 51 := Pq_N.trans (by decide +kernel)
theorem n_14 : hN (Pq x lx14) = 140 := Pq_N.trans (by decide +kernel)
theorem kk_0 : hk (Pq x lx0) 0 = 6 := Pq_k.trans (by decide +kernel)
theorem kk_1 : hk (Pq x lx1) 1 = 4 := Pq_k.trans (by decide +kernel)
theorem kk_3 : hk (Pq x lx3) 13 = 5 := Pq_k.trans (by decide +kernel)
theorem kk_4 : hk (Pq x lx4) 0 = 6 := Pq_k.trans (by decide +kernel)
theorem kk_6 : hk (Pq x lx6) 28 = 3 := Pq_k.trans (by decide +kernel)
theorem kk_7 : hk (Pq x lx7) 0 = 6 := Pq_k.trans (by decide +kernel)
theorem kk_9 : hk (Pq x lx9) 39 = 3 := Pq_k.trans (by decide +kernel)
theorem kk_10 : hk (Pq x lx10) 0 = 6 := Pq_k.trans (by decide +kernel)
theorem kk_12 : hk (Pq x lx12) 50 = 2 := Pq_k.trans (by decide +kernel)
theorem kk_13 : hk (Pq x lx13) 0 = 6 := Pq_k.trans (by decide +kernel)
theorem c_1 : EvM (d + 3) 30 [.ref 1] (Pq x lx1) K = K (.inl none) (Pq x lx2) := by
  refine (s_setupInit (d := d + 1) n_1 kk_1).trans ?_
  rw [sd_setup n_1, Pq_l2]
  rfl
theorem c_3 : EvM (d + 3) 31 [.ref 13] (Pq x lx3) K = K (.inl none) (Pq x lx4) := by
  refine (s_readerInit (d := d) n_3 kk_3).trans ?_
  rw [sd_reader n_3, Pq_l2]
  rfl
theorem c_6 : EvM (d + 3) 6 [.ref 28, .ref 1] (Pq x lx6) K = K (.inl none) (Pq x lx7) := by
  refine (s_lineInit (d := d + 2) n_6 kk_6).trans ?_
  rw [sd_line, Pq_l2]
  rfl
theorem c_9 : EvM (d + 3) 6 [.ref 39, .ref 1] (Pq x lx9) K = K (.inl none) (Pq x lx10) := by
  refine (s_lineInit (d := d + 2) n_9 kk_9).trans ?_
  rw [sd_line, Pq_l2]
  rfl
theorem c_12 : EvM (d + 3) 3 [.ref 50, .ref 1] (Pq x lx12) K = K (.inl none) (Pq x lx13) := by
  refine (s_histInit (d := d + 1) n_12 kk_12).trans ?_
  rw [sd_hist n_12, Pq_l2]
  rfl
theorem s_classInit : EvM (d + 4) 51 [.ref 0] (Pq x lx0) K = K (.inl none) (Pq x lx14) := by
  simp only [in51, i51_0, i51_1, i51_4, i51_7, i51_8, i51_11, i51_12, i51_13, i51_16, i51_17, i51_20, i51_23, i51_24, i51_27, i51_28, i51_29, i51_32, i51_35, i51_36, i51_39, i51_40, i51_41, i51_44, i51_47, i51_48, i51_51, i51_52, i51_53, i51_56, i51_59, nl_i, nl_r, nl_0, nl_j, nb0, nb1, nbI, orv_s, konN_v, konN_n, konN_e, true_and, and_true, and_self, if_true, if_false, ite_true, ite_false, isR_ref, true_or, or_true, isR_null, rg10, rg11, rg12, rg13, rg14, rg15, rg16, rh13, rh14, rh15, rh16, bI_T, bI_F, bI_Fb, i1z, Bool.false_eq_true, eq_self, e_1, e_3, e_5, e_6, e_8, e_9, e_11, e_12, e_14, n_0, n_2, n_5, n_8, n_11, kk_0, kk_1, kk_3, kk_4, kk_6, kk_7, kk_9, kk_10, kk_12, kk_13, c_1, c_3, c_6, c_9, c_12]
end XS
