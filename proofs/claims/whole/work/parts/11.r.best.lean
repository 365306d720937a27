/-! FACE: bestSetpoint -/
def bst (dv : Int32 → Int32) (p o : Int32) (v : Int32 × Int32) : Int32 × Int32 := if 100 ≤ p + o ∧ p + o ≤ 900 then (if v.2 < dv (p + o) then (p + o, dv (p + o)) else v) else v
section BE
variable {d : Nat} {h : AH} {hh : AH} {T : Nat → Bool} {U U' S A : Nat → Nat → Int32} {J J' : Nat → Nat → Int64} {G : Nat → Nat} {K : AO → AH → Prop} {c : HP} {x y p b m : Int32} {nz ns t n g : Nat} {q pg f D X Y stk : Nat → Int32} {a sa : Nat → Nat → Int32} {dv : Int32 → Int32}
theorem pS_pS {b : Nat} {f' : Nat → Int32} : pS (pS S b f) b f' = pS S b f' := by
  funext i k
  unfold pS
  split <;> rfl
theorem pA_pA {b : Nat} {a a' : Nat → Nat → Int32} : pA (pA A b a) b a' = pA A b a' := by
  funext i
  unfold pA
  split <;> rfl
theorem pA_cg {b : Nat} {a a' : Nat → Nat → Int32} (h : ∀ j, 1 ≤ j → j ≤ 10 → a j = a' j) : pA A b a = pA A b a' := by
  funext i
  unfold pA
  split
  · rename_i e
    exact h _ (by omega) (by omega)
  · rfl
theorem q_copyFrom : EvM (d + 1) 13 [.ref 39, .ref 28] (MH h T U (pS S 39 f) (pA A 39 a) J (upf G 39 g)) K = K (.inl none) (MH h T U (pS S 39 (S 28)) (pA A 39 (fun j => A (28 + j))) J (upf G 39 (G 28))) := by
  rw [p_copyFrom, pS_pS, pA_pA, upf_upf, upf_ne _ _ (show ¬ 28 = 39 by decide), show pS S 39 f 28 = S 28 from funext fun k => pS_ne (by decide)]
  rw [pA_cg (A := A) (a := fun j => pA A 39 a (28 + j)) (a' := fun j => A (28 + j)) (fun j j1 j2 => pA_o (by omega))]
/-- the sheets that are done after 200 ticks -/
def dvF (sa : Nat → Nat → Int32) (q pg : Nat → Int32) (n nz ns : Nat) (f : Nat → Int32) (a : Nat → Nat → Int32) (stk : Nat → Int32) (x : Int32) : Int32 :=
  cnt ((ttfF sa q pg n 0 200 (stk, f, upf a 1 (upd (a 1) (nz - 1) x))).2.2.2 6) 3 ns
theorem ax_inv (hI : INV nz ns f a) (hx : 100 ≤ x ∧ x ≤ 900) : INV nz ns f (upf a 1 (upd (a 1) (nz - 1) x)) := by
  obtain ⟨j1, j2, j3, j4, j5, j6⟩ := hI
  refine ⟨j1, j2, j3, fun z' hz' => ⟨?_, (j4 z' hz').2⟩, j5, j6⟩
  show 100 ≤ upd (a 1) (nz - 1) x z' ∧ upd (a 1) (nz - 1) x z' ≤ 900
  by_cases e : z' = nz - 1
  · rw [e, upd_eq]; exact hx
  · rw [upd_nz e]; exact (j4 z' hz').1
theorem r_dw (h0 : 0 < nz) (hI : INV nz ns (S 28) a) (hE : EQL nz ns (S 28) a (A 142)) (hS : STA nz q sa n pg (A 142)) (hY : deq (A 142) Y) (hx : 100 ≤ x ∧ x ≤ 900) :
    ∃ J' X' Y', deq (A 142) Y' ∧ ∀ d K, EvM (d + 8) 154 [.ref 140, .int x] (MH h T U S (upf (upf A 144 X) 142 Y) J G) K = K (.inl (some (.int (dvF sa q pg n nz ns (S 28) a stk x)))) (MH h T U S (upf (upf A 144 X') 142 Y') J' G) := by
  have n6 := hS.1.2.1
  have i2 := hI.1.2.1
  have hE1 := EQ_1 (x := nz - 1) (v := x) n6 i2 (by omega) (EQL_deq n6 i2 hY hE)
  have hS1 := STA_upd (i := 9 + 7 * (nz - 1)) (v := x) (Or.inr (Or.inr (Or.inr (Or.inr (Or.inl ⟨nz - 1, by omega, Or.inl rfl⟩))))) (STA_deq hY hS)
  obtain ⟨J2, D', f', a', -, lp, x0, x1, x2, x3⟩ := dw_loop (c := (h, T, U, S, upf A 144 (cpF Y X), J, G)) (x := x) (show 200 ≤ 300 by omega) rfl h0 200 0 stk (S 28) _ _ J (by omega) (ax_inv hI hx) hE1 hS1
  refine ⟨J2, cpF Y X, cpF (cpF Y X) D', deq_tr hY (deq_tr cp_deq cp_deq), fun d K => ?_⟩
  have lq : ∀ d K, Ev (d + 5) 154 30 [some (.ref 140), some (.int x), some (.int 0)] [] (MH h T U S (upf (upf A 144 (cpF Y X)) 142 (upd Y (9 + 7 * (nz - 1)) x)) J G) K = Ev (d + 5) 154 47 [some (.ref 140), some (.int x), some (.int (nI 200))] [] (MH h T U S (upf (upf A 144 (cpF Y X)) 142 D') J2 G) K := fun d K => by
    have l := lp d K
    rw [nI_0] at l
    exact l
  have d0 : Y 0 = nI nz := (hY 0 (by omega)).trans hS.1.2.2
  have e1 : nI nz - 1 = nI (nz - 1) := by
    obtain ⟨e, rfl⟩ : ∃ e, nz = e + 1 := ⟨nz - 1, by omega⟩
    exact nI_pred e
  have c1 := fun d K => s_copy (d := d) (h := h) (T := T) (U := U) (S := S) (A := upf (upf A 144 X) 142 Y) (J := J) (G := G) (K := K) (x := 142) (y := 144) rfl rfl rfl rfl (by omega)
  have eA : upf (upf (upf A 144 X) 142 Y) 144 (cpF Y X) = upf (upf A 144 (cpF Y X)) 142 Y := by
    funext i
    by_cases e : i = 144
    · subst e
      rw [upf_same, upf_ne _ _ (by decide), upf_same]
    · rw [upf_ne _ _ e]
      by_cases e2 : i = 142
      · subst e2
        rw [upf_same, upf_same]
      · rw [upf_ne _ _ e2, upf_ne _ _ e2, upf_ne _ _ e, upf_ne _ _ e]
  rw [upf_same, upf_ne _ _ (show ¬ 144 = 142 by decide), upf_same, eA] at c1
  have c2 := fun d K => s_copy (d := d) (h := h) (T := T) (U := U) (S := S) (A := upf (upf A 144 (cpF Y X)) 142 D') (J := J2) (G := G) (K := K) (x := 144) (y := 142) rfl rfl rfl rfl (by omega)
  rw [upf_same, upf_upf, upf_ne _ _ (show ¬ 144 = 142 by decide), upf_same] at c2
  have k2 := fun d K => p_countOf (d := d) (h := h) (T := T) (U := U) (S := S) (A := upf (upf A 144 (cpF Y X)) 142 D') (J := J2) (G := G) (K := K) (w := 3) (ns := ns) (by rw [upf_same]; exact x2.1.1) i2
  have m2 : cnt (fun s => upf (upf A 144 (cpF Y X)) 142 D' 142 (51 + 3 * s + 2)) 3 ns = dvF sa q pg n nz ns (S 28) a stk x := cnt_congr (fun s hs => by rw [upf_same, (x2.2.2.1 s hs).2.2, x0])
  rw [m2] at k2
  simp only [i154_0, i154_1, i154_4, i154_5, i154_8, i154_11, i154_12, i154_15, i154_16, i154_19, i154_20, i154_21, i154_22, i154_23, i154_26, i154_27, i154_28, i154_29, in154, nl_i, nl_r, nl_0, nl_j, nb0, nb1, nbI, orv_s, konN_v, konN_n, konN_e, true_and, and_true, and_self, if_true, if_false, ite_true, ite_false, isR_ref, true_or, or_true, bI_T, bI_F, bI_Fb, i1z, Bool.false_eq_true, mh_N, mh_S, mh_X, mh_alH, f_0_0, f_0_1, f_0_2, f_0_3, f_13_0, f_13_1, w_13_1, f_13_2, w_13_2, f_13_3, w_13_3, f_13_4, w_13_4, f_13_5, w_13_5, f_13_6, w_13_6, f_13_7, w_13_7, f_13_8, w_13_8, f_13_9, f_13_10, w_13_10, f_13_11, f_13_12, w_13_12, f_50_0, f_50_1, w_50_1, f_50_2, w_50_2, f_140_0, w_140_0, f_140_1, f_140_2, w_140_2, f_140_3, w_140_3, f_140_4, w_140_4, f_140_5, w_140_5, f_140_6, w_140_6, f_140_7, w_140_7, f_140_8, f_140_9, f_140_10, f_140_11, f_140_12, w_140_12, f_140_13, w_140_13, f_140_14, w_140_14, f_140_15, w_13_9, k_0, l_0, k_13, l_13, k_14, l_14, k_15, l_15, k_50, l_50, k_51, l_51, k_140, l_140, k_141, l_141, k_142, l_142, k_143, l_143, k_144, l_144, k_145, l_145, k_146, l_146, k_147, l_147, k_148, l_148, k_149, l_149, k_150, l_150, k_151, l_151, k_152, l_152, k_153, l_153, k_154, l_154, k_155, l_155, a_14, wa_14, a_15, wa_15, a_141, wa_141, a_142, wa_142, a_143, wa_143, a_144, wa_144, a_146, wa_146, a_147, wa_147, a_148, wa_148, a_149, wa_149, a_150, wa_150, a_151, wa_151, a_152, wa_152, a_153, wa_153, j_154, j_155, wj_154, wj_155, r_51, r_145, c1, upf_same, ib_0, iz_0, d0, e1, s_zoneAt, inbT (show 9 + 7 * (nz - 1) < 1451 by omega) (show 1451 < 2 ^ 31 by omega), zn_nI (show 9 + 7 * (nz - 1) < 2 ^ 31 by omega), upf_upf, lq, i154_47, i154_48, i154_49, i154_52, i154_53, i154_54, i154_57, i154_58, i154_61, i154_64, i154_65, k2, c2]
theorem dv_stk {stk2 : Nat → Int32} (h0 : 0 < nz) (hI : INV nz ns (S 28) a) (hE : EQL nz ns (S 28) a (A 142)) (hS : STA nz q sa n pg (A 142)) (hx : 100 ≤ x ∧ x ≤ 900) (h : AH) (T : Nat → Bool) (U : Nat → Nat → Int32) (J : Nat → Nat → Int64) (G : Nat → Nat) : dvF sa q pg n nz ns (S 28) a stk x = dvF sa q pg n nz ns (S 28) a stk2 x := by
  obtain ⟨J1, X1, Y1, -, r1⟩ := r_dw (h := h) (T := T) (U := U) (J := J) (G := G) (X := A 144) (Y := A 142) (stk := stk) h0 hI hE hS deq_id hx
  obtain ⟨J2, X2, Y2, -, r2⟩ := r_dw (h := h) (T := T) (U := U) (J := J) (G := G) (X := A 144) (Y := A 142) (stk := stk2) h0 hI hE hS deq_id hx
  have e := (r1 0 (fun o _ => o = .inl (some (.int (dvF sa q pg n nz ns (S 28) a stk2 x))))).symm.trans (r2 0 (fun o _ => o = .inl (some (.int (dvF sa q pg n nz ns (S 28) a stk2 x)))))
  have e2 := e.mpr rfl
  injection e2 with e3
  injection e3 with e4
  injection e4
theorem c_dw (hs : SUp h T (G 28) t q sa n pg) (q0 : q 0 = nI nz) (n6 : nz ≤ 6) (h0 : 0 < nz) (hf : S 28 2 = nI ns) (hns : ns ≤ 20) :
    ∃ U' f' a', ∀ d K, EvM (d + 12) 79 [.ref 0, .int x] (MH h T U (pS S 39 f) (pA A 39 a) J (upf G 39 g)) K = K (.inl (some (.int (dvF sa q pg n nz ns (S 28) (fun j => A (28 + j)) (U (t + 2)) x)))) (MH h T U' (pS S 39 f') (pA A 39 a') J (upf G 39 (G 28))) := by
  have hb := hb39
  have hs2 : SUp h T (upf G 39 (G 28) 39) t q sa n pg := by rw [upf_same]; exact hs
  have e1 : nI nz - 1 = nI (nz - 1) := by
    obtain ⟨e, rfl⟩ : ∃ e, nz = e + 1 := ⟨nz - 1, by omega⟩
    exact nI_pred e
  have zf : zn (S 28 2) = ns := by rw [hf]; exact zn_nI (by omega)
  have hz : 0 < q 0 := by rw [q0, nI_pz n6]; exact h0
  have ex := fun d K => s_exists (d := d) (h := h) (T := T) (U := U) (S := S) (A := A) (J := J) (G := upf G 39 (G 28)) (K := K) (f := S 28) (a := fun j => A (28 + j)) hb39 hs2
  rw [bI_t hz] at ex
  have ttf := fun d K => s_ttf (d := d) (h := h) (T := T) (U := U) (S := S) (A := A) (J := J) (G := upf G 39 (G 28)) (K := K) (f := S 28) (a := upf (fun j => A (28 + j)) 1 (upd (A (28 + 1)) (nz - 1) x)) hb39 hs2 (N := 200) (by omega) (by rw [zf]; exact hns)
  have hf2 : ∀ m k (v : ULt), (ttfF sa q pg n k m v).2.2.1 2 = v.2.1 2 := by
    intro m
    induction m with
    | zero => intro k v; rfl
    | succ m ih =>
      intro k v
      rw [ttfF]
      split
      · rfl
      · rw [ih, tick_2]
  have f2 := hf2 200 0 (U (t + 2), S 28, upf (fun j => A (28 + j)) 1 (upd (A (28 + 1)) (nz - 1) x))
  have hd : dvF sa q pg n nz ns (S 28) (fun j => A (28 + j)) (U (t + 2)) x = cnt ((ttfF sa q pg n 0 200 (U (t + 2), S 28, upf (fun j => A (28 + j)) 1 (upd (A (28 + 1)) (nz - 1) x))).2.2.2 6) 3 ns := rfl
  generalize ttfF sa q pg n 0 200 (U (t + 2), S 28, upf (fun j => A (28 + j)) 1 (upd (A (28 + 1)) (nz - 1) x)) = R at ttf hd f2
  have zf2 : zn (R.2.2.1 2) = ns := by rw [f2]; exact zf
  refine ⟨upf U (t + 2) R.2.1, R.2.2.1, R.2.2.2, fun d K => ?_⟩
  have sh := fun d K => s_sheetsIn (d := d) (h := h) (T := T) (U := upf U (t + 2) R.2.1) (S := S) (A := A) (J := J) (G := upf G 39 (G 28)) (K := K) (w := 3) (f := R.2.2.1) (a := R.2.2.2) hb39 (by rw [zf2]; omega)
  rw [zf2, ← hd] at sh
  simp only [in79, i79_0, i79_1, i79_4, i79_5, i79_8, i79_11, i79_12, i79_15, i79_18, i79_21, i79_22, i79_25, i79_28, i79_29, i79_32, i79_35, i79_38, i79_39, i79_40, i79_41, i79_42, i79_43, i79_46, i79_49, i79_52, i79_53, i79_54, i79_57, i79_58, i79_61, nl_i, nl_r, nl_0, nl_j, nb0, nb1, nbI, orv_s, konN_v, konN_n, konN_e, true_and, and_true, and_self, if_true, if_false, ite_true, ite_false, isR_ref, true_or, or_true, bI_T, bI_F, bI_Fb, i1z, Bool.false_eq_true, k_l0 hb, k_l1 hb, k_l2 hb, k_l3 hb, k_l4 hb, k_l5 hb, k_l6 hb, k_l7 hb, k_l8 hb, k_l9 hb, k_l10 hb, l_l1 hb, l_l2 hb, l_l3 hb, l_l4 hb, l_l5 hb, l_l6 hb, l_l7 hb, l_l8 hb, l_l9 hb, l_l10 hb, a_l1 hb, a_l2 hb, a_l3 hb, a_l4 hb, a_l5 hb, a_l6 hb, a_l7 hb, a_l8 hb, a_l9 hb, a_l10 hb, wa_l1 hb, wa_l2 hb, wa_l3 hb, wa_l4 hb, wa_l5 hb, wa_l6 hb, wa_l7 hb, wa_l8 hb, wa_l9 hb, wa_l10 hb, f_l0 hb, f_l1 hb, f_l2 hb, f_l3 hb, f_l4 hb, f_l5 hb, f_l6 hb, f_l7 hb, f_l8 hb, f_l9 hb, f_l10 hb, f_l11 hb, f_l12 hb, f_l13 hb, f_l14 hb, w_l0 hb, w_l1 hb, w_l2 hb, w_l3 hb, w_l4 hb, pS_b, pS_up, pA_1, pA_2, pA_3, pA_4, pA_5, pA_6, pA_7, pA_8, pA_9, pA_10, pU_1, pU_2, pU_3, pU_4, pU_5, pU_6, pU_7, pU_8, pU_9, pU_10, mh_N, mh_S, mh_X, mh_alH, k_l0 hb28, k_0, f_0_1, f_0_2, q_copyFrom, ex, i1n0, su_k hs2, su_f0 hs2, su_f1 hs2, su_f2 hs2, su_f10 hs2, su_tk hs2, su_t0 hs2, su_t1 hs2, su_pk hs2, su_pl hs2, su_pa hs2, su_sk hs2, su_sl hs2, su_sa hs2, su_sw hs2, su_f3 hs2, su_k1 hs2, su_l1 hs2, su_a1 hs2, su_f4 hs2, su_k2 hs2, su_l2 hs2, su_a2 hs2, su_f5 hs2, su_k3 hs2, su_l3 hs2, su_a3 hs2, su_f6 hs2, su_k4 hs2, su_l4 hs2, su_a4 hs2, su_f7 hs2, su_k5 hs2, su_l5 hs2, su_a5 hs2, su_f8 hs2, su_k6 hs2, su_l6 hs2, su_a6 hs2, su_f9 hs2, su_k7 hs2, su_l7 hs2, su_a7 hs2, q0, e1, inbT (show nz - 1 < 6 by omega) (show 6 < 2 ^ 31 by omega), zn_nI (show nz - 1 < 2 ^ 31 by omega), show (200 : Int32) = nI 200 from rfl, ttf, sh]
end BE
