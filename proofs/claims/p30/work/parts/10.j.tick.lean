/-! THE LAW'S LINE: a tick -/
section TKL
variable {g g' : AH} {B W : Nat → Prop} {l : Nat} {D : Nat → Nat → Nat} {nz ns n c : Nat} {q pg stk : Nat → Int32} {sa : Nat → Nat → Int32} {tv : Value} {f f' : Nat → Int32} {a a' : Nat → Nat → Int32} {p p' : Nat → Int32} {z s t : Nat}
theorem H3_fill {s : Nat} {g st : Nat → Int32} (h : H3 nz ns g st) (hns : ns ≤ 20) (hs : s < ns) (hg : g 0 = -1) (h0 : st s = 0) : H3 nz ns (upd g 0 (nI s)) (upd st s 1) := by
  have key : ∀ j, j < nz → ¬ g j = nI s := fun j hj w => by
    rcases h.1 j hj with e | ⟨s', e1, e2, e3⟩
    · rw [e] at w
      exact nI_nm1 (by omega) w.symm
    · rw [w] at e2
      have := nI_inj (by omega) (by omega) e2
      rw [← this, h0] at e3
      exact absurd e3 (by decide)
  refine ⟨fun j hj => ?_, fun j j' hj hj' hne he => ?_⟩
  · by_cases e : j = 0
    · subst e; exact Or.inr ⟨s, hs, upd_e, upd_e⟩
    · rw [upd_n e]
      rcases h.1 j hj with h1 | ⟨s', h1, h2, h3⟩
      · exact Or.inl h1
      · refine Or.inr ⟨s', h1, h2, ?_⟩
        rw [upd_n (fun w => by rw [w, h0] at h3; exact absurd h3 (by decide))]
        exact h3
  · by_cases e : j = 0
    · subst e
      rw [upd_e, upd_n (fun w => hne w.symm)] at he
      exact absurd he.symm (key j' hj')
    · by_cases e' : j' = 0
      · subst e'
        rw [upd_e, upd_n e] at he
        exact absurd he (key j hj)
      · rw [upd_n e, upd_n e'] at he
        rw [upd_n e]
        exact h.2 j j' hj hj' hne he
theorem Q3_ne {s : Nat} {x y v : Int32} {st : Nat → Int32} (h : Q3 ns x y st) (h1 : ¬ st s = 2) : Q3 ns x y (upd st s v) := by
  rcases h with h | ⟨s', a1, a2, a3, a4⟩
  · exact Or.inl h
  · refine Or.inr ⟨s', a1, a2, a3, ?_⟩
    rw [upd_n (fun w => by rw [w] at a4; exact h1 a4)]
    exact a4
theorem fl_busy (h : LLn g B l D nz ns q sa tv pg n f a p) (h0 : 0 < nz) (hb : ¬ a 3 0 = -1) : ∀ m k l4, k + m = ns → ∃ l4', ∀ d K, Ev (d + 1) 92 239 [some (.ref l), some (.ref (D 0 2)), some (.int (nI ns)), some (.int (nI k)), l4] [] g K = Ev (d + 1) 92 286 [some (.ref l), some (.ref (D 0 2)), some (.int (nI ns)), some (.int (nI ns)), l4'] [] g K
  | 0, k, l4, hk => by
    have n20 := h.2.2.2.1.1.2.1
    obtain rfl : k = ns := by omega
    refine ⟨l4, fun d K => ?_⟩
    rw [i92_239]
    simp only [i92_240, i92_241, nl_i, nl_r, nl_0, nl_j, nb0, nb1, nbI, orv_s, konN_v, konN_n, konN_e, true_and, and_true, and_self, if_true, if_false, ite_true, ite_false, isR_ref, true_or, or_true, isR_null, rg10, rg11, rg12, rg13, rg14, rg15, rg16, rh13, rh14, rh15, rh16, bI_T, bI_F, bI_Fb, i1z, Bool.false_eq_true, nI_leI (show k < 2 ^ 31 by omega) (show k < 2 ^ 31 by omega), Nat.le_refl]
  | m + 1, k, l4, hk => by
    have n20 := h.2.2.2.1.1.2.1
    have ks : k < ns := by omega
    have hL := h.1
    have at0 := fun (d : Nat) (K : AO → AH → Prop) => s_atz (d := d) (K := K) hL h.2.2.2.1 h.2.2.2.2.1 h0
    rw [nI_0] at at0
    have f3 : ((0 : Int32) ≤ a 3 0) = True := by
      rcases h.2.2.2.1.2.2.1.1 0 h0 with e | ⟨s', hs', e1, -⟩
      · exact absurd e hb
      · rw [e1]; exact eq_true (nI_pos' (by omega))
    have f3' : (a 3 0 < 0) = False := eq_false (fun y => absurd (of_eq_true f3) (Int32.not_le.mpr y))
    obtain ⟨l4', r⟩ := fl_busy h h0 hb m (k + 1) (some (.ref (D 2 k))) (by omega)
    refine ⟨l4', fun d K => ?_⟩
    rw [i92_239]
    simp only [i92_240, i92_241, i92_244, i92_245, i92_246, i92_247, i92_249, i92_251, i92_254, i92_257, i92_258, i92_259, i92_262, i92_265, i92_268, i92_270, i92_271, i92_274, i92_276, i92_277, i92_280, i92_283, nl_i, nl_r, nl_0, nl_j, nb0, nb1, nbI, orv_s, konN_v, konN_n, konN_e, true_and, and_true, and_self, if_true, if_false, ite_true, ite_false, isR_ref, true_or, or_true, isR_null, rg10, rg11, rg12, rg13, rg14, rg15, rg16, rh13, rh14, rh15, rh16, bI_T, bI_F, bI_Fb, i1z, Bool.false_eq_true, lc_k hL, lc_f0 hL, lc_f1 hL, lc_f2 hL, lc_f4 hL, lc_f5 hL, lc_f6 hL, lc_f7 hL, lc_f8 hL, lc_f9 hL, lc_k0 hL, lc_l0 hL, lc_k1 hL, lc_l1 hL, lc_k2 hL, lc_l2 hL, lc_k3 hL, lc_l3 hL, lc_k4 hL, lc_l4 hL, ls_R hL ks, ls_k hL ks, ls_0 hL ks, ls_1 hL ks, ls_2 hL ks, ls_3 hL ks, nI_leI (show ns < 2 ^ 31 by omega) (show k < 2 ^ 31 by omega), show ¬ ns ≤ k by omega, inbT ks (show ns < 2 ^ 31 by omega), nI_clamp (show k < 2 ^ 31 by omega), ← nI_succ, at0, f3, f3', r]
    split <;> rfl
theorem fl_free (h : LLn g B l D nz ns q sa tv pg n f a p) (h0 : 0 < nz) (hb : a 3 0 = -1) : ∀ m k, k + m = ns → ∃ g' p', Sx (Aw l D nz ns) 0 g g' ∧ LLn g' B l D nz ns q sa tv pg n f (fillF a k m) p' ∧ ∀ l4, ∃ l4', ∀ d K, Ev (d + 1) 92 239 [some (.ref l), some (.ref (D 0 2)), some (.int (nI ns)), some (.int (nI k)), l4] [] g K = Ev (d + 1) 92 286 [some (.ref l), some (.ref (D 0 2)), some (.int (nI ns)), some (.int (nI ns)), l4'] [] g' K
  | 0, k, hk => by
    have n20 := h.2.2.2.1.1.2.1
    obtain rfl : k = ns := by omega
    refine ⟨g, p, Sx.rf, h, fun l4 => ⟨l4, fun d K => ?_⟩⟩
    rw [i92_239]
    simp only [i92_240, i92_241, nl_i, nl_r, nl_0, nl_j, nb0, nb1, nbI, orv_s, konN_v, konN_n, konN_e, true_and, and_true, and_self, if_true, if_false, ite_true, ite_false, isR_ref, true_or, or_true, isR_null, rg10, rg11, rg12, rg13, rg14, rg15, rg16, rh13, rh14, rh15, rh16, bI_T, bI_F, bI_Fb, i1z, Bool.false_eq_true, nI_leI (show k < 2 ^ 31 by omega) (show k < 2 ^ 31 by omega), Nat.le_refl]
  | m + 1, k, hk => by
    have hL := h.1
    have hI := h.2.2.2.1
    have hP := h.2.2.2.2.1
    have n20 := hI.1.2.1
    have n6 := h.2.2.2.2.2.1.2
    have ks : k < ns := by omega
    have hap := h.2.1.1
    have at0 := fun (d : Nat) (K : AO → AH → Prop) => s_atz (d := d) (K := K) hL hI hP h0
    rw [nI_0] at at0
    have m1 : ((0 : Int32) ≤ -1) = False := eq_false (by decide)
    have m2 : ((-1 : Int32) < 0) = True := eq_true (by decide)
    unfold fillF
    by_cases hw : a 6 k = 0
    · rw [if_pos hw]
      have L1 := hL.ws2 hap ks (x := 1)
      have L2 := L1.ws3 hap ks (x := 0)
      have x2 : Sx (Aw l D nz ns) 0 g (wF (wF g (D 2 k) 2 (.int 1)) (D 2 k) 3 (.int 0)) := (Sx.of (Sm.wF (Aw_s ks)) rfl rfl).tr (Sx.of (Sm.wF (Aw_s ks)) rfl rfl)
      have key1 : ∀ z', z' < nz → ¬ a 3 z' = nI k := fun z' hz' y => by
        rcases hI.2.2.1.1 z' hz' with e | ⟨s', hs', e1, e2⟩
        · rw [e] at y
          exact nI_nm1 (by omega) y.symm
        · have := nI_inj (by omega) (by omega) (y.symm.trans e1)
          rw [← this, hw] at e2
          exact absurd e2 (by decide)
      have key2 : ¬ f 3 = nI k := fun y => by
        rcases hI.2.1 with e | ⟨s', hs', e1, e2, e3⟩
        · rw [e.1] at y
          exact nI_nm1 (by omega) y.symm
        · have := nI_inj (by omega) (by omega) (y.symm.trans e1)
          rw [← this, hw] at e3
          exact absurd e3 (by decide)
      have H2 : LLn (wF (wF g (D 2 k) 2 (.int 1)) (D 2 k) 3 (.int 0)) B l D nz ns q sa tv pg n f (upf (upf a 6 (upd (a 6) k 1)) 3 (upd (a 3) 0 (nI k))) (upd p k 0) := by
        refine h.nw x2 (L2.cf rfl (fun _ y => y) (fun i hi => upf_ne _ _ hi)) (INV_st (s := k) (v := 1) hI rfl (Q3_ne hI.2.1 (by rw [hw]; decide)) (H3_fill hI.2.2.1 n20 ks hb hw) (fun i g1 g2 => by rw [upf_ne _ _ g1, upf_ne _ _ g2]) (Or.inl rfl) (by decide)) ?_
        refine PLc_set hP (fun z' hz' => ?_) ⟨fun y => absurd y (by decide), fun y => absurd y key2⟩ (fun s' z' hs' e hz' => ?_) (fun s' hs' e => Iff.rfl)
        · show 0 = nI z' ↔ upd (a 3) 0 (nI k) z' = nI k
          by_cases e : z' = 0
          · rw [e, upd_e]
            exact ⟨fun _ => rfl, fun _ => nI_0.symm⟩
          · rw [upd_n e]
            exact ⟨fun y => absurd (nI_inj (a := 0) (by omega) (by omega) (nI_0.trans y)).symm e, fun y => absurd y (key1 z' hz')⟩
        · show upd (a 3) 0 (nI k) z' = nI s' ↔ _
          by_cases e2 : z' = 0
          · rw [e2, upd_e, hb]
            exact ⟨fun y => absurd (nI_inj (by omega) (by omega) y).symm e, fun y => absurd y.symm (nI_nm1 (by omega))⟩
          · rw [upd_n e2]
      have rb := fl_busy H2 h0 (by show ¬ upd (a 3) 0 (nI k) 0 = -1; rw [upd_e]; exact nI_nm1 (by omega)) m (k + 1) (some (.ref (D 2 k))) (by omega)
      obtain ⟨l4', r⟩ := rb
      refine ⟨_, _, x2, H2, fun l4 => ⟨l4', fun d K => ?_⟩⟩
      rw [i92_239]
      simp only [i92_240, i92_241, i92_244, i92_245, i92_246, i92_247, i92_249, i92_251, i92_254, i92_257, i92_258, i92_259, i92_262, i92_265, i92_268, i92_270, i92_271, i92_274, i92_276, i92_277, i92_280, i92_283, nl_i, nl_r, nl_0, nl_j, nb0, nb1, nbI, orv_s, konN_v, konN_n, konN_e, true_and, and_true, and_self, if_true, if_false, ite_true, ite_false, isR_ref, true_or, or_true, isR_null, rg10, rg11, rg12, rg13, rg14, rg15, rg16, rh13, rh14, rh15, rh16, bI_T, bI_F, bI_Fb, i1z, Bool.false_eq_true, lc_k hL, lc_f0 hL, lc_f1 hL, lc_f2 hL, lc_f4 hL, lc_f5 hL, lc_f6 hL, lc_f7 hL, lc_f8 hL, lc_f9 hL, lc_k0 hL, lc_l0 hL, lc_k1 hL, lc_l1 hL, lc_k2 hL, lc_l2 hL, lc_k3 hL, lc_l3 hL, lc_k4 hL, lc_l4 hL, ls_R hL ks, ls_k hL ks, ls_0 hL ks, ls_1 hL ks, ls_2 hL ks, ls_3 hL ks, ls_k L1 ks, nI_leI (show ns < 2 ^ 31 by omega) (show k < 2 ^ 31 by omega), show ¬ ns ≤ k by omega, inbT ks (show ns < 2 ^ 31 by omega), nI_clamp (show k < 2 ^ 31 by omega), ← nI_succ, at0, hb, m1, m2, hw, r]
    · rw [if_neg hw]
      obtain ⟨g', p', x1, x2, r⟩ := fl_free h h0 hb m (k + 1) (by omega)
      refine ⟨g', p', x1, x2, fun l4 => ?_⟩
      obtain ⟨l4', r⟩ := r (some (.ref (D 2 k)))
      refine ⟨l4', fun d K => ?_⟩
      rw [i92_239]
      simp only [i92_240, i92_241, i92_244, i92_245, i92_246, i92_247, i92_249, i92_251, i92_254, i92_257, i92_258, i92_259, i92_262, i92_265, i92_268, i92_270, i92_271, i92_274, i92_276, i92_277, i92_280, i92_283, nl_i, nl_r, nl_0, nl_j, nb0, nb1, nbI, orv_s, konN_v, konN_n, konN_e, true_and, and_true, and_self, if_true, if_false, ite_true, ite_false, isR_ref, true_or, or_true, isR_null, rg10, rg11, rg12, rg13, rg14, rg15, rg16, rh13, rh14, rh15, rh16, bI_T, bI_F, bI_Fb, i1z, Bool.false_eq_true, lc_k hL, lc_f0 hL, lc_f1 hL, lc_f2 hL, lc_f4 hL, lc_f5 hL, lc_f6 hL, lc_f7 hL, lc_f8 hL, lc_f9 hL, lc_k0 hL, lc_l0 hL, lc_k1 hL, lc_l1 hL, lc_k2 hL, lc_l2 hL, lc_k3 hL, lc_l3 hL, lc_k4 hL, lc_l4 hL, ls_R hL ks, ls_k hL ks, ls_0 hL ks, ls_1 hL ks, ls_2 hL ks, ls_3 hL ks, nI_leI (show ns < 2 ^ 31 by omega) (show k < 2 ^ 31 by omega), show ¬ ns ≤ k by omega, inbT ks (show ns < 2 ^ 31 by omega), nI_clamp (show k < 2 ^ 31 by omega), ← nI_succ, hw, r]
theorem fl_step (h : LLn g B l D nz ns q sa tv pg n f a p) (h0 : 0 < nz) : ∃ g' p', Sx (Aw l D nz ns) 0 g g' ∧ LLn g' B l D nz ns q sa tv pg n (fillL q (f, a)).1 (fillL q (f, a)).2 p' ∧ ∀ d K l1 l2 l3 l4, Ev (d + 1) 92 229 [some (.ref l), l1, l2, l3, l4] [] g K = K (.inl none) g' := by
  have hI := h.2.2.2.1
  have n20 := hI.1.2.1
  have q0 : 0 < q 0 := by
    rw [h.2.2.2.2.2.1.1, i32_lt, nI_toInt (by have := h.2.2.2.2.2.1.2; omega)]
    show (0 : Int) < _
    omega
  have zf : zn (f 2) = ns := by rw [hI.1.1]; exact nI_clamp (by omega)
  have fin : ∀ (g1 : AH) (a1 : Nat → Nat → Int32) (p1 : Nat → Int32), LLn g1 B l D nz ns q sa tv pg n f a1 p1 → Sx (Aw l D nz ns) 0 g1 (wF g1 l 0 (.int (f 1 + 1))) ∧ LLn (wF g1 l 0 (.int (f 1 + 1))) B l D nz ns q sa tv pg n (upf f 1 (f 1 + 1)) a1 p1 ∧ ∀ d K l1 l2 l3 l4, Ev (d + 1) 92 286 [some (.ref l), l1, l2, l3, l4] [] g1 K = K (.inl none) (wF g1 l 0 (.int (f 1 + 1))) := fun g1 a1 p1 x => by
    have L := x.1
    have s1 : Sx (Aw l D nz ns) 0 g1 (wF g1 l 0 (.int (f 1 + 1))) := Sx.of (Sm.wF Aw_l) rfl rfl
    refine ⟨s1, x.nw s1 (L.wn x.2.1.1 (Or.inl rfl) rfl (fun y hy => hy)) x.2.2.2.1 (x.2.2.2.2.1.cg rfl rfl), fun d K l1 l2 l3 l4 => ?_⟩
    simp only [i92_286, i92_287, i92_288, i92_291, i92_292, i92_293, i92_296, nl_i, nl_r, nl_0, nl_j, nb0, nb1, nbI, orv_s, konN_v, konN_n, konN_e, true_and, and_true, and_self, if_true, if_false, ite_true, ite_false, isR_ref, true_or, or_true, isR_null, rg10, rg11, rg12, rg13, rg14, rg15, rg16, rh13, rh14, rh15, rh16, bI_T, bI_F, bI_Fb, i1z, Bool.false_eq_true, lc_k L, lc_f0 L, lc_f1 L, lc_f2 L, lc_f4 L, lc_f5 L, lc_f6 L, lc_f7 L, lc_f8 L, lc_f9 L, lc_k0 L, lc_l0 L, lc_k1 L, lc_l1 L, lc_k2 L, lc_l2 L, lc_k3 L, lc_l3 L, lc_k4 L, lc_l4 L]
  have hL := h.1
  by_cases hb : a 3 0 = -1
  · obtain ⟨g1, p1, x1, x2, r1⟩ := fl_free h h0 hb ns 0 (by omega)
    obtain ⟨y1, y2, r2⟩ := fin g1 _ p1 x2
    have ef : fillL q (f, a) = (upf f 1 (f 1 + 1), fillF a 0 ns) := by
      unfold fillL
      dsimp only
      rw [if_pos ⟨q0, hb⟩, zf]
    rw [ef]
    refine ⟨_, p1, x1.tr y1, y2, fun d K l1 l2 l3 l4 => ?_⟩
    obtain ⟨l4', r1⟩ := r1 l4
    rw [nI_0] at r1
    simp only [i92_229, i92_230, i92_233, i92_234, i92_235, i92_236, i92_237, i92_238, nl_i, nl_r, nl_0, nl_j, nb0, nb1, nbI, orv_s, konN_v, konN_n, konN_e, true_and, and_true, and_self, if_true, if_false, ite_true, ite_false, isR_ref, true_or, or_true, isR_null, rg10, rg11, rg12, rg13, rg14, rg15, rg16, rh13, rh14, rh15, rh16, bI_T, bI_F, bI_Fb, i1z, Bool.false_eq_true, lc_k hL, lc_f0 hL, lc_f1 hL, lc_f2 hL, lc_f4 hL, lc_f5 hL, lc_f6 hL, lc_f7 hL, lc_f8 hL, lc_f9 hL, lc_k0 hL, lc_l0 hL, lc_k1 hL, lc_l1 hL, lc_k2 hL, lc_l2 hL, lc_k3 hL, lc_l3 hL, lc_k4 hL, lc_l4 hL, r1, r2]
  · obtain ⟨y1, y2, r2⟩ := fin g a p h
    have ef : fillL q (f, a) = (upf f 1 (f 1 + 1), a) := by
      unfold fillL
      dsimp only
      rw [if_neg (fun y => hb y.2)]
    rw [ef]
    refine ⟨_, p, y1, y2, fun d K l1 l2 l3 l4 => ?_⟩
    obtain ⟨l4', r1⟩ := fl_busy h h0 hb ns 0 l4 (by omega)
    rw [nI_0] at r1
    simp only [i92_229, i92_230, i92_233, i92_234, i92_235, i92_236, i92_237, i92_238, nl_i, nl_r, nl_0, nl_j, nb0, nb1, nbI, orv_s, konN_v, konN_n, konN_e, true_and, and_true, and_self, if_true, if_false, ite_true, ite_false, isR_ref, true_or, or_true, isR_null, rg10, rg11, rg12, rg13, rg14, rg15, rg16, rh13, rh14, rh15, rh16, bI_T, bI_F, bI_Fb, i1z, Bool.false_eq_true, lc_k hL, lc_f0 hL, lc_f1 hL, lc_f2 hL, lc_f4 hL, lc_f5 hL, lc_f6 hL, lc_f7 hL, lc_f8 hL, lc_f9 hL, lc_k0 hL, lc_l0 hL, lc_k1 hL, lc_l1 hL, lc_k2 hL, lc_l2 hL, lc_k3 hL, lc_l3 hL, lc_k4 hL, lc_l4 hL, r1, r2]
theorem hz_all' (h0 : 0 < nz) : ∀ m k (g : AH) (a : Nat → Nat → Int32), k + m = nz → LLn g B l D nz ns q sa tv pg n f a p →
    ∃ g', Sx (Aw l D nz ns) 0 g g' ∧ LLn g' B l D nz ns q sa tv pg n f (itn (fun k a => hzStep sa a k) k m a) p ∧ ∀ d K l2 l3 l4, Ev (d + 1) 92 2 [some (.ref l), some (.int (nI k)), l2, l3, l4] [] g K = Ev (d + 1) 92 66 [some (.ref l), some (.int (nI nz)), l2, l3, l4] [] g' K
  | 0, k, g, a, hk, h => by
    obtain rfl : k = nz := by omega
    have n6 := h.2.2.2.2.2.1.2
    have hL := h.1
    refine ⟨g, Sx.rf, h, fun d K l2 l3 l4 => ?_⟩
    rw [i92_2]
    simp only [i92_3, i92_4, i92_7, i92_8, nl_i, nl_r, nl_0, nl_j, nb0, nb1, nbI, orv_s, konN_v, konN_n, konN_e, true_and, and_true, and_self, if_true, if_false, ite_true, ite_false, isR_ref, true_or, or_true, isR_null, rg10, rg11, rg12, rg13, rg14, rg15, rg16, rh13, rh14, rh15, rh16, bI_T, bI_F, bI_Fb, i1z, Bool.false_eq_true, lc_k hL, lc_f0 hL, lc_f1 hL, lc_f2 hL, lc_f4 hL, lc_f5 hL, lc_f6 hL, lc_f7 hL, lc_f8 hL, lc_f9 hL, lc_k0 hL, lc_l0 hL, lc_k1 hL, lc_l1 hL, lc_k2 hL, lc_l2 hL, lc_k3 hL, lc_l3 hL, lc_k4 hL, lc_l4 hL, nI_leI (show k < 2 ^ 31 by omega) (show k < 2 ^ 31 by omega), Nat.le_refl]
  | m + 1, k, g, a, hk, h => by
    obtain ⟨g1, x1, h1, r1⟩ := hz_one h (show k < nz by omega)
    obtain ⟨g2, x2, h2, r2⟩ := hz_all' h0 m (k + 1) g1 _ (by omega) h1
    exact ⟨g2, x1.tr x2, h2, fun d K l2 l3 l4 => (r1 d K l2 l3 l4).trans (r2 d K l2 l3 l4)⟩
theorem ht_all' (h0 : 0 < nz) : ∀ m k (g : AH) (stk : Nat → Int32) (a : Nat → Nat → Int32), k + m = nz → LLn g B l D nz ns q sa tv pg n f a p →
    ∃ g', Sx (Aw l D nz ns) (3 * m) g g' ∧ LLn g' B l D nz ns q sa tv pg n f (itn (hsF sa pg n f) k m (stk, a)).2 p ∧ ∀ l2 l3 l4, ∃ l2' l3' l4', ∀ d K, Ev (d + 5) 92 68 [some (.ref l), some (.int (nI k)), l2, l3, l4] [] g K = Ev (d + 5) 92 202 [some (.ref l), some (.int (nI nz)), l2', l3', l4'] [] g' K
  | 0, k, g, stk, a, hk, h => by
    obtain rfl : k = nz := by omega
    have n6 := h.2.2.2.2.2.1.2
    have hL := h.1
    refine ⟨g, Sx.rf, h, fun l2 l3 l4 => ⟨l2, l3, l4, fun d K => ?_⟩⟩
    rw [i92_68]
    simp only [i92_69, i92_70, i92_73, i92_74, nl_i, nl_r, nl_0, nl_j, nb0, nb1, nbI, orv_s, konN_v, konN_n, konN_e, true_and, and_true, and_self, if_true, if_false, ite_true, ite_false, isR_ref, true_or, or_true, isR_null, rg10, rg11, rg12, rg13, rg14, rg15, rg16, rh13, rh14, rh15, rh16, bI_T, bI_F, bI_Fb, i1z, Bool.false_eq_true, lc_k hL, lc_f0 hL, lc_f1 hL, lc_f2 hL, lc_f4 hL, lc_f5 hL, lc_f6 hL, lc_f7 hL, lc_f8 hL, lc_f9 hL, lc_k0 hL, lc_l0 hL, lc_k1 hL, lc_l1 hL, lc_k2 hL, lc_l2 hL, lc_k3 hL, lc_l3 hL, lc_k4 hL, lc_l4 hL, nI_leI (show k < 2 ^ 31 by omega) (show k < 2 ^ 31 by omega), Nat.le_refl]
  | m + 1, k, g, stk, a, hk, h => by
    obtain ⟨g1, x1, h1, r1⟩ := ht_one (stk := stk) h (show k < nz by omega)
    obtain ⟨g2, x2, h2, r2⟩ := ht_all' h0 m (k + 1) g1 (hsF sa pg n f k (stk, a)).1 _ (by omega) h1
    refine ⟨g2, (x1.tr x2).mo (fun _ _ y => y) (by omega), h2, fun l2 l3 l4 => ?_⟩
    obtain ⟨l2', l3', l4', r1⟩ := r1 l2 l3 l4
    obtain ⟨l2'', l3'', l4'', r2⟩ := r2 l2' l3' l4'
    exact ⟨l2'', l3'', l4'', fun d K => (r1 d K).trans (r2 d K)⟩
theorem mv_all' : ∀ j (g : AH) (f p : Nat → Int32) (a : Nat → Nat → Int32), j ≤ nz → LLn g B l D nz ns q sa tv pg n f a p →
    ∃ g' p', Sx (Aw l D nz ns) 0 g g' ∧ LLn g' B l D nz ns q sa tv pg n (itd (moveF sa q) j (f, a)).1 (itd (moveF sa q) j (f, a)).2 p' ∧ ∃ w : Int32, ∀ d K l2 l3 l4, Ev (d + 2) 92 214 [some (.ref l), some (.int (nI j - 1)), l2, l3, l4] [] g K = Ev (d + 2) 92 229 [some (.ref l), some (.int w), l2, l3, l4] [] g' K
  | 0, g, f, p, a, hj, h => by
    refine ⟨g, p, Sx.rf, h, nI 0 - 1, fun d K l2 l3 l4 => ?_⟩
    rw [i92_214]
    simp only [i92_215, nl_i, nl_r, nl_0, nl_j, nb0, nb1, nbI, orv_s, konN_v, konN_n, konN_e, true_and, and_true, and_self, if_true, if_false, ite_true, ite_false, isR_ref, true_or, or_true, isR_null, rg10, rg11, rg12, rg13, rg14, rg15, rg16, rh13, rh14, rh15, rh16, bI_T, bI_F, bI_Fb, i1z, Bool.false_eq_true, show (nI 0 - 1 < 0) = True from eq_true (by decide)]
  | j + 1, g, f, p, a, hj, h => by
    have n6 := h.2.2.2.2.2.1.2
    have hL := h.1
    obtain ⟨g1, p1, x1, h1, r1⟩ := s_step h (show j < nz by omega)
    obtain ⟨g2, p2, x2, h2, w, r2⟩ := mv_all' j g1 _ p1 _ (by omega) h1
    refine ⟨g2, p2, x1.tr x2, h2, w, fun d K l2 l3 l4 => ?_⟩
    rw [← r2, nI_pred, i92_214]
    simp only [i92_215, i92_218, i92_219, i92_220, i92_223, i92_226, nl_i, nl_r, nl_0, nl_j, nb0, nb1, nbI, orv_s, konN_v, konN_n, konN_e, true_and, and_true, and_self, if_true, if_false, ite_true, ite_false, isR_ref, true_or, or_true, isR_null, rg10, rg11, rg12, rg13, rg14, rg15, rg16, rh13, rh14, rh15, rh16, bI_T, bI_F, bI_Fb, i1z, Bool.false_eq_true, lc_k hL, lc_f0 hL, lc_f1 hL, lc_f2 hL, lc_f4 hL, lc_f5 hL, lc_f6 hL, lc_f7 hL, lc_f8 hL, lc_f9 hL, lc_k0 hL, lc_l0 hL, lc_k1 hL, lc_l1 hL, lc_k2 hL, lc_l2 hL, lc_k3 hL, lc_l3 hL, lc_k4 hL, lc_l4 hL, eq_false (nI_pos (show j < 2 ^ 31 by omega)), r1]
    rw [show nI j + -1 = nI j - 1 from (Int32.sub_eq_add_neg _ _).symm]
theorem s_ltick (h : LLn g B l D nz ns q sa tv pg n f a p) (h0 : 0 < nz) : ∃ g' p', Sx (Aw l D nz ns) 18 g g' ∧ LLn g' B l D nz ns q sa tv pg n (tickL sa q pg n (stk, f, a)).2.1 (tickL sa q pg n (stk, f, a)).2.2 p' ∧ ∀ d K, EvM (d + 5) 92 [.ref l] g K = K (.inl none) g' := by
  have n6 := h.2.2.2.2.2.1.2
  have zq : zn (q 0) = nz := by rw [h.2.2.2.2.2.1.1]; exact nI_clamp (by omega)
  obtain ⟨g1, x1, h1, r1⟩ := hz_all' h0 nz 0 g a (by omega) h
  obtain ⟨g2, x2, h2, r2⟩ := ht_all' h0 nz 0 g1 stk _ (by omega) h1
  obtain ⟨g3, p3, x3, h3, r3⟩ := s_cool h2
  obtain ⟨g4, p4, x4, h4, w, r4⟩ := mv_all' nz g3 _ p3 _ (Nat.le_refl _) h3
  obtain ⟨g5, p5, x5, h5, r5⟩ := fl_step h4 h0
  have et : tickL sa q pg n (stk, f, a) = ((itn (hsF sa pg n f) 0 nz (stk, itn (fun k a => hzStep sa a k) 0 nz a)).1, fillL q ((itd (moveF sa q) nz (quL sa q (f, (itn (hsF sa pg n f) 0 nz (stk, itn (fun k a => hzStep sa a k) 0 nz a)).2))).1, (itd (moveF sa q) nz (quL sa q (f, (itn (hsF sa pg n f) 0 nz (stk, itn (fun k a => hzStep sa a k) 0 nz a)).2))).2)) := by
    unfold tickL hzL
    dsimp only
    rw [zq]
  rw [et]
  refine ⟨g5, p5, (x1.tr (x2.tr (x3.tr (x4.tr x5)))).mo (fun _ _ y => y) (by omega), h5, fun d K => ?_⟩
  have L2 := h2.1
  have L3 := h3.1
  rw [nI_0] at r1
  obtain ⟨l2', l3', l4', r2⟩ := r2 none none none
  rw [nI_0] at r2
  simp only [i92_0, i92_1, in92, nl_i, nl_r, nl_0, nl_j, nb0, nb1, nbI, orv_s, konN_v, konN_n, konN_e, true_and, and_true, and_self, if_true, if_false, ite_true, ite_false, isR_ref, true_or, or_true, isR_null, rg10, rg11, rg12, rg13, rg14, rg15, rg16, rh13, rh14, rh15, rh16, bI_T, bI_F, bI_Fb, i1z, Bool.false_eq_true, r1, i92_66, i92_67, r2, i92_202, i92_203, i92_206, i92_207, i92_210, i92_211, i92_212, i92_213, lc_k L2, lc_f0 L2, lc_f1 L2, lc_f2 L2, lc_f4 L2, lc_f5 L2, lc_f6 L2, lc_f7 L2, lc_f8 L2, lc_f9 L2, lc_k0 L2, lc_l0 L2, lc_k1 L2, lc_l1 L2, lc_k2 L2, lc_l2 L2, lc_k3 L2, lc_l3 L2, lc_k4 L2, lc_l4 L2, lc_k L3, lc_f0 L3, lc_f1 L3, lc_f2 L3, lc_f4 L3, lc_f5 L3, lc_f6 L3, lc_f7 L3, lc_f8 L3, lc_f9 L3, lc_k0 L3, lc_l0 L3, lc_k1 L3, lc_l1 L3, lc_k2 L3, lc_l2 L3, lc_k3 L3, lc_l3 L3, lc_k4 L3, lc_l4 L3, r3, r4, r5]
end TKL
