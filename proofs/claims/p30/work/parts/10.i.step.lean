/-! THE LAW'S LINE: moving on -/
theorem un_eq {x : Int32} : ∀ (m k : Nat) (g : Nat → Int32), itn (unStep x) k m g = fun j => if k ≤ j ∧ j < k + m ∧ g j = x then -1 else g j
  | 0, k, g => by
    funext j
    rw [if_neg (by omega)]
    rfl
  | m + 1, k, g => by
    rw [itn, un_eq m (k + 1)]
    funext j
    unfold unStep
    by_cases e : g k = x
    · rw [if_pos e]
      by_cases ej : j = k
      · subst ej
        rw [if_neg (by omega), upd_e, if_pos ⟨by omega, by omega, e⟩]
      · rw [upd_n ej]
        by_cases h : k + 1 ≤ j ∧ j < k + 1 + m ∧ g j = x
        · rw [if_pos h, if_pos ⟨by omega, by omega, h.2.2⟩]
        · rw [if_neg h, if_neg (fun z => h ⟨by omega, by omega, z.2.2⟩)]
    · rw [if_neg e]
      by_cases h : k + 1 ≤ j ∧ j < k + 1 + m ∧ g j = x
      · rw [if_pos h, if_pos ⟨by omega, by omega, h.2.2⟩]
      · rw [if_neg h, if_neg (fun z => h ⟨by
          have : ¬ j = k := fun y => e (by rw [← y]; exact z.2.2)
          omega, by omega, z.2.2⟩)]
section H3S
variable {nz ns s z : Nat} {g st : Nat → Int32} {v x y : Int32}
theorem H3_un (h : H3 nz ns g st) (hns : ns ≤ 20) (hs : s < ns) (hz : z < nz) (hg : g z = nI s) : itn (unStep (nI s)) 0 nz g = upd g z (-1) := by
  rw [un_eq]
  funext j
  by_cases e : j = z
  · subst e
    rw [if_pos ⟨by omega, by omega, hg⟩, upd_e]
  · rw [upd_n e, if_neg]
    intro w
    have := h.2 j z (by omega) hz e (w.2.2.trans hg.symm)
    rw [w.2.2] at this
    exact nI_nm1 (by omega) this
theorem H3_rm (h : H3 nz ns g st) (hns : ns ≤ 20) (hs : s < ns) (hz : z < nz) (hg : g z = nI s) : H3 nz ns (upd g z (-1)) (upd st s v) := by
  refine ⟨fun j hj => ?_, fun j j' hj hj' hne he => ?_⟩
  · by_cases e : j = z
    · subst e; exact Or.inl upd_e
    · rw [upd_n e]
      rcases h.1 j hj with h1 | ⟨s', h1, h2, h3⟩
      · exact Or.inl h1
      · refine Or.inr ⟨s', h1, h2, ?_⟩
        rw [upd_n]
        · exact h3
        · intro w
          subst w
          have := h.2 j z hj hz e (h2.trans hg.symm)
          rw [h2] at this
          exact nI_nm1 (by omega) this
  · by_cases e : j = z
    · subst e; exact upd_e
    · by_cases e' : j' = z
      · subst e'
        rw [upd_e] at he
        exact he
      · rw [upd_n e, upd_n e'] at he
        rw [upd_n e]
        exact h.2 j j' hj hj' hne he
theorem H3_mv (h : H3 nz ns g st) (hns : ns ≤ 20) (hs : s < ns) (hz : z < nz) (hz' : z + 1 < nz) (hg : g z = nI s) (h1 : st s = 1) (hg' : g (z + 1) = -1) : H3 nz ns (upd (upd g z (-1)) (z + 1) (nI s)) st := by
  have key : ∀ j, j < nz → ¬ j = z → ¬ g j = nI s := fun j hj e w => by
    have := h.2 j z hj hz e (w.trans hg.symm)
    rw [w] at this
    exact nI_nm1 (by omega) this
  have val : ∀ j, upd (upd g z (-1)) (z + 1) (nI s) j = if j = z + 1 then nI s else if j = z then -1 else g j := fun j => rfl
  refine ⟨fun j hj => ?_, fun j j' hj hj' hne he => ?_⟩
  · rw [val]
    by_cases e : j = z + 1
    · rw [if_pos e]; exact Or.inr ⟨s, hs, rfl, h1⟩
    · rw [if_neg e]
      by_cases e2 : j = z
      · rw [if_pos e2]; exact Or.inl rfl
      · rw [if_neg e2]; exact h.1 j hj
  · rw [val, val] at he
    rw [val]
    by_cases e : j = z + 1
    · rw [if_pos e] at he
      rw [if_neg (by omega)] at he
      by_cases e2 : j' = z
      · rw [if_pos e2] at he
        exact absurd he (nI_nm1 (by omega))
      · rw [if_neg e2] at he
        exact absurd he.symm (key j' hj' e2)
    · rw [if_neg e]
      by_cases e2 : j = z
      · rw [if_pos e2]
      · rw [if_neg e2]
        rw [if_neg e, if_neg e2] at he
        by_cases e3 : j' = z + 1
        · rw [if_pos e3] at he
          exact absurd he (key j hj e2)
        · rw [if_neg e3] at he
          by_cases e4 : j' = z
          · rw [if_pos e4] at he
            exact he
          · rw [if_neg e4] at he
            exact h.2 j j' hj hj' hne he
theorem Q3_st (h : Q3 ns x y st) (h1 : st s = 1) : Q3 ns x y (upd st s v) := by
  rcases h with h | ⟨s', a1, a2, a3, a4⟩
  · exact Or.inl h
  · refine Or.inr ⟨s', a1, a2, a3, ?_⟩
    rw [upd_n (fun w => by rw [w, h1] at a4; exact absurd a4 (by decide))]
    exact a4
end H3S
section MV
variable {g g' : AH} {B W : Nat → Prop} {l : Nat} {D : Nat → Nat → Nat} {nz ns n c : Nat} {q pg stk : Nat → Int32} {sa : Nat → Nat → Int32} {tv : Value} {f f' : Nat → Int32} {a a' : Nat → Nat → Int32} {p p' : Nat → Int32} {z s t : Nat}
theorem INV_st {s : Nat} {v : Int32} (hI : INV nz ns f a) (h2 : f' 2 = f 2) (hQ : Q3 ns (f' 3) (f' 4) (a' 6)) (hH : H3 nz ns (a' 3) (a' 6)) (ha : ∀ i, ¬ i = 3 → ¬ i = 6 → a' i = a i) (h6 : a' 6 = upd (a 6) s v ∨ a' 6 = a 6) (hv : 0 ≤ v ∧ v ≤ 5) : INV nz ns f' a' := by
  obtain ⟨⟨i1, i2, i3⟩, i4, i5, i7, i8, i9⟩ := hI
  refine ⟨⟨h2.trans i1, i2, i3⟩, hQ, hH, ?_, ?_, ?_⟩
  · rw [ha 1 (by omega) (by omega), ha 2 (by omega) (by omega)]
    exact i7
  · rw [ha 4 (by omega) (by omega), ha 5 (by omega) (by omega)]
    intro y hy
    refine ⟨(i8 y hy).1, (i8 y hy).2.1, ?_⟩
    rcases h6 with h6 | h6
    · rw [h6]
      by_cases e : y = s
      · rw [e, upd_e]; exact hv
      · rw [upd_n e]; exact (i8 y hy).2.2
    · rw [h6]; exact (i8 y hy).2.2
  · rw [ha 10 (by omega) (by omega)]
    exact i9
theorem PLc_set {v : Int32} (hP : PLc nz ns f a p) (hA : ∀ z, z < nz → (v = nI z ↔ a' 3 z = nI s)) (hB : v = -1 ↔ f' 3 = nI s) (hC : ∀ s' z, s' < ns → ¬ s' = s → z < nz → (a' 3 z = nI s' ↔ a 3 z = nI s')) (hD : ∀ s', s' < ns → ¬ s' = s → (f' 3 = nI s' ↔ f 3 = nI s')) : PLc nz ns f' a' (upd p s v) := by
  refine ⟨fun s' hs' z hz' => ?_, fun s' hs' => ?_⟩
  · by_cases e : s' = s
    · subst e
      rw [upd_e]
      exact hA z hz'
    · rw [upd_n e, hC s' z hs' e hz']
      exact hP.1 s' hs' z hz'
  · by_cases e : s' = s
    · subst e
      rw [upd_e]
      exact hB
    · rw [upd_n e, hD s' hs' e]
      exact hP.2 s' hs'
theorem upf_c6 {g3 g6 : Nat → Int32} {i : Nat} (h : ¬ i = 3) : upf (upf a 3 g3) 6 g6 i = upf a 6 g6 i := by
  unfold upf
  by_cases e : i = 6
  · rw [if_pos e, if_pos e]
  · rw [if_neg e, if_neg e, if_neg h]
theorem s_step (h : LLn g B l D nz ns q sa tv pg n f a p) (hz : z < nz) :
    ∃ g' p', Sx (Aw l D nz ns) 0 g g' ∧ LLn g' B l D nz ns q sa tv pg n (moveF sa q z (f, a)).1 (moveF sa q z (f, a)).2 p' ∧ ∀ d K, EvM (d + 1) 91 [.ref l, .int (nI z)] g K = K (.inl none) g' := by
  have hL := h.1
  have hI := h.2.2.2.1
  have hS := h.2.2.2.2.2
  have hP := h.2.2.2.2.1
  have n6 : nz ≤ 6 := hS.1.2
  have n20 : ns ≤ 20 := hI.1.2.1
  have hap := h.2.1.1
  have i4 := hI.2.1
  have i5 := hI.2.2.1
  rcases i5.1 z hz with h0 | ⟨s, hs, h0, h6⟩
  · have hf : moveF sa q z (f, a) = (f, a) := by
      unfold moveF
      dsimp only
      rw [if_neg]
      intro y
      rw [h0] at y
      exact absurd y.1 (by decide)
    rw [hf]
    refine ⟨g, p, Sx.rf, h, fun d K => ?_⟩
    simp only [in91, i91_0, i91_1, i91_2, i91_5, i91_8, i91_9, i91_10, i91_13, i91_14, i91_15, i91_18, i91_19, i91_20, i91_21, i91_22, i91_25, i91_26, i91_27, i91_28, i91_31, i91_32, i91_35, i91_36, i91_39, i91_40, i91_41, i91_42, i91_45, i91_46, i91_47, i91_48, i91_49, i91_52, i91_53, i91_54, i91_55, i91_58, i91_59, i91_62, i91_63, i91_64, i91_65, i91_67, i91_68, i91_71, i91_72, i91_75, i91_76, i91_77, i91_78, i91_79, i91_80, i91_81, i91_84, i91_85, i91_86, i91_87, i91_90, i91_93, i91_94, i91_97, i91_98, i91_101, i91_102, i91_103, i91_104, i91_105, i91_106, i91_107, i91_110, i91_111, i91_113, i91_116, i91_119, i91_120, i91_122, i91_125, i91_127, i91_130, i91_131, i91_132, i91_133, i91_136, i91_137, i91_138, i91_141, i91_142, i91_145, i91_146, i91_149, nl_i, nl_r, nl_0, nl_j, nb0, nb1, nbI, orv_s, konN_v, konN_n, konN_e, true_and, and_true, and_self, if_true, if_false, ite_true, ite_false, isR_ref, true_or, or_true, isR_null, rg10, rg11, rg12, rg13, rg14, rg15, rg16, rh13, rh14, rh15, rh16, bI_T, bI_F, bI_Fb, i1z, Bool.false_eq_true, lc_k hL, lc_f0 hL, lc_f1 hL, lc_f2 hL, lc_f4 hL, lc_f5 hL, lc_f6 hL, lc_f7 hL, lc_f8 hL, lc_f9 hL, lc_k0 hL, lc_l0 hL, lc_k1 hL, lc_l1 hL, lc_k2 hL, lc_l2 hL, lc_k3 hL, lc_l3 hL, lc_k4 hL, lc_l4 hL, s_atz hL hI hP hz, h0, show ((0 : Int32) ≤ -1) = False from eq_false (by decide)]
  · obtain ⟨v1, v2, v3⟩ := hI.2.2.2.2.1 s hs
    obtain ⟨k, k2, k19, hk⟩ := th_k v1.1 v1.2
    have k20 : k < 20 := by omega
    have zs : zn (a 3 z) = s := by rw [h0]; exact nI_clamp (by omega)
    have zk : zn (a 4 s) = k := by rw [hk]; exact nI_clamp (by omega)
    have hv : 0 ≤ a 3 z ∧ a 3 z < f 2 := by
      rw [h0, hI.1.1]
      exact ⟨nI_pos' (by omega), by rw [nI_lI (by omega) (by omega)]; exact hs⟩
    have s0 : ((0 : Int32) ≤ nI s) = True := eq_true (nI_pos' (by omega))
    have m1 : ((0 : Int32) ≤ -1) = False := eq_false (by decide)
    have m2 : ((-1 : Int32) < 0) = True := eq_true (by decide)
    have ik := inbT k20 (show 20 < 2 ^ 31 by omega)
    have is := inbT hs (show ns < 2 ^ 31 by omega)
    have iz := inbT hz (show nz < 2 ^ 31 by omega)
    have ck : (nI k).toNatClampNeg = k := nI_clamp (by omega)
    have cs : (nI s).toNatClampNeg = s := nI_clamp (by omega)
    have cz : (nI z).toNatClampNeg = z := nI_clamp (by omega)
    have key1 : ∀ z', z' < nz → ¬ z' = z → ¬ a 3 z' = nI s := fun z' hz' e y => by
      have := i5.2 z' z hz' hz e (y.trans h0.symm)
      rw [y] at this
      exact nI_nm1 (by omega) this
    have key2 : ¬ f 3 = nI s := fun y => by
      rcases i4 with e | ⟨s', hs', e1, e2, e3⟩
      · rw [e.1] at y
        exact nI_nm1 (by omega) y.symm
      · have := nI_inj (by omega) (by omega) (y.symm.trans e1)
        rw [← this, h6] at e3
        exact absurd e3 (by decide)
    have key3 : ∀ s', s' < ns → ¬ s' = s → ¬ a 3 z = nI s' := fun s' hs' e y => e (nI_inj (by omega) (by omega) (y.symm.trans h0))
    have xo : ∀ v w, Sx (Aw l D nz ns) 0 g (wF (wF g (D 2 s) 3 (.int v)) (D 2 s) 2 (.int w)) := fun v w => (Sx.of (Sm.wF (Aw_s hs)) rfl rfl).tr (Sx.of (Sm.wF (Aw_s hs)) rfl rfl)
    have ko := fun v => ls_k (hL.ws3 hap hs (x := v)) hs
    have Lo := fun v w => (hL.ws3 hap hs (x := v)).ws2 hap hs (x := w)
    obtain ⟨m, rfl⟩ : ∃ m, nz = m + 1 := ⟨nz - 1, by omega⟩
    have zq : zn (q 0) = m + 1 := by rw [hS.1.1]; exact nI_clamp (by omega)
    have v5 : (0 : Int32) ≤ 5 ∧ (5 : Int32) ≤ 5 := by decide
    have v22 : (0 : Int32) ≤ 2 ∧ (2 : Int32) ≤ 5 := by decide
    have spoil : moveF sa q z (f, a) = (f, spoilL (m + 1) (nI s) a) → LLn (wF (wF g (D 2 s) 3 (.int (-2))) (D 2 s) 2 (.int 5)) B l D (m + 1) ns q sa tv pg n (moveF sa q z (f, a)).1 (moveF sa q z (f, a)).2 (upd p s (-2)) := fun hf => by
      rw [hf]
      have e : spoilL (m + 1) (nI s) a = upf (upf a 6 (upd (a 6) s 5)) 3 (upd (a 3) z (-1)) := by
        unfold spoilL
        rw [show zn (nI s) = s from nI_clamp (by omega), H3_un i5 n20 hs hz h0]
      rw [e]
      refine h.nw (xo _ _) ((Lo (-2) 5).cf rfl (fun _ y => y) (fun i hi => upf_ne _ _ hi)) (INV_st hI rfl (Q3_st i4 h6) (H3_rm i5 n20 hs hz h0) (fun i g1 g2 => by dsimp only; rw [upf_ne _ _ g1, upf_ne _ _ g2]) (Or.inl rfl) v5) ?_
      refine PLc_set hP (fun z' hz' => ⟨fun y => absurd y (nI_nm2 (by omega)), fun y => ?_⟩) ⟨fun y => absurd y (by decide), fun y => absurd y key2⟩ (fun s' z' hs' e hz' => ?_) (fun s' hs' e => Iff.rfl)
      · exfalso
        have y : upd (a 3) z (-1) z' = nI s := y
        by_cases e : z' = z
        · rw [e, upd_e] at y
          exact nI_nm1 (by omega) y.symm
        · rw [upd_n e] at y
          exact key1 z' hz' e y
      · show upd (a 3) z (-1) z' = nI s' ↔ _
        by_cases e2 : z' = z
        · rw [e2, upd_e]
          exact ⟨fun y => absurd y.symm (nI_nm1 (by omega)), fun y => absurd y (key3 s' hs' e)⟩
        · rw [upd_n e2]
    by_cases hlast : z = m
    · subst hlast
      have hq : nI z = q 0 - 1 := by rw [hS.1.1, nI_pred]
      have hcor : corF a (a 4 s) = a 10 k := by
        unfold corF
        rw [if_pos v1, zk]
      by_cases hup : sa 5 z + a 10 k < a 5 s
      · have hf : moveF sa q z (f, a) = (f, spoilL (z + 1) (nI s) a) := by
          unfold moveF
          dsimp only
          rw [if_pos hv, if_pos hq, zs, hcor, if_pos hup, zq, h0]
        refine ⟨_, _, xo _ _, spoil hf, fun d K => ?_⟩
        simp only [in91, i91_0, i91_1, i91_2, i91_5, i91_8, i91_9, i91_10, i91_13, i91_14, i91_15, i91_18, i91_19, i91_20, i91_21, i91_22, i91_25, i91_26, i91_27, i91_28, i91_31, i91_32, i91_35, i91_36, i91_39, i91_40, i91_41, i91_42, i91_45, i91_46, i91_47, i91_48, i91_49, i91_52, i91_53, i91_54, i91_55, i91_58, i91_59, i91_62, i91_63, i91_64, i91_65, i91_67, i91_68, i91_71, i91_72, i91_75, i91_76, i91_77, i91_78, i91_79, i91_80, i91_81, i91_84, i91_85, i91_86, i91_87, i91_90, i91_93, i91_94, i91_97, i91_98, i91_101, i91_102, i91_103, i91_104, i91_105, i91_106, i91_107, i91_110, i91_111, i91_113, i91_116, i91_119, i91_120, i91_122, i91_125, i91_127, i91_130, i91_131, i91_132, i91_133, i91_136, i91_137, i91_138, i91_141, i91_142, i91_145, i91_146, i91_149, in89, i89_0, i89_1, i89_3, i89_6, i89_7, i89_8, i89_11, nl_i, nl_r, nl_0, nl_j, nb0, nb1, nbI, orv_s, konN_v, konN_n, konN_e, true_and, and_true, and_self, if_true, if_false, ite_true, ite_false, isR_ref, true_or, or_true, isR_null, rg10, rg11, rg12, rg13, rg14, rg15, rg16, rh13, rh14, rh15, rh16, bI_T, bI_F, bI_Fb, i1z, Bool.false_eq_true, lc_k hL, lc_f0 hL, lc_f1 hL, lc_f2 hL, lc_f4 hL, lc_f5 hL, lc_f6 hL, lc_f7 hL, lc_f8 hL, lc_f9 hL, lc_k0 hL, lc_l0 hL, lc_k1 hL, lc_l1 hL, lc_k2 hL, lc_l2 hL, lc_k3 hL, lc_l3 hL, lc_k4 hL, lc_l4 hL, lz_R hL hz, lz_k hL hz, lz_l hL hz, lz_0 hL hz, lz_1 hL hz, lz_2 hL hz, lz_3 hL hz, lz_4 hL hz, lz_h hL hz, ls_R hL hs, ls_k hL hs, ls_0 hL hs, ls_1 hL hs, ls_2 hL hs, ls_3 hL hs, lw_R hL k20, lw_k hL k20, lw_l hL k20, lw_0 hL k20, lw_1 hL k20, lw_2 hL k20, lw_3 hL k20, ib04, ib14, ib24, ib34, ib05, ib15, ib25, ib35, ib45, zn_0, zn_1, zn_2, zn_3, zn_4, s_atz hL hI hP hz, h0, s0, is, cs, iz, cz, hk, ik, ck, nI_pred, ko, eq_false (Int32.not_le.mpr hup)]
      · have hup' : (a 5 s ≤ sa 5 z + a 10 k) = True := eq_true (Int32.not_lt.mp hup)
        by_cases hlo : sa 4 z + a 10 k ≤ a 5 s
        · have hlo' : (a 5 s < sa 4 z + a 10 k) = False := eq_false (Int32.not_lt.mpr hlo)
          by_cases hq3 : f 3 = -1
          · have hf : moveF sa q z (f, a) = (upf (upf f 3 (nI s)) 4 (a 4 s * q 1), upf (upf a 3 (upd (a 3) z (-1))) 6 (upd (a 6) s 2)) := by
              unfold moveF toQuF
              dsimp only
              rw [if_pos hv, if_pos hq, zs, hcor, if_neg hup, if_pos hlo, if_pos hq, if_pos hq3, h0]
            rw [hf]
            have L2 := Lo (-1) 2
            have L3 := L2.wn (f' := upf (upf f 3 (nI s)) 4 (a 4 s * q 1)) hap (k := 3) (x := a 4 s * q 1) (Or.inr rfl) rfl (fun y hy => Or.inr (by rw [if_pos rfl] at hy; exact hy))
            have x3 : Sx (Aw l D (z + 1) ns) 0 g _ := (xo (-1) 2).tr (Sx.of (Sm.wF (k := 3) (v := .int (a 4 s * q 1)) Aw_l) rfl rfl)
            refine ⟨_, upd p s (-1), x3, h.nw x3 (L3.cf rfl (fun _ y => y) (fun i hi => upf_c6 hi)) ?_ ?_, fun d K => ?_⟩
            · refine INV_st (s := s) (v := 2) hI rfl (Or.inr ⟨s, hs, rfl, ?_, upd_e⟩) (H3_rm i5 n20 hs hz h0) (fun i g1 g2 => by dsimp only; rw [upf_ne _ _ g2, upf_ne _ _ g1]) (Or.inl rfl) v22
              have bq := i32_bd (hS.2.1 (by omega)).1
              have bt := i32_bd v1
              have c1 : (1 : Int32).toInt = 1 := rfl
              have c9 : (9 : Int32).toInt = 9 := rfl
              have c2 : (2 : Int32).toInt = 2 := rfl
              have c19 : (19 : Int32).toInt = 19 := rfl
              rw [c1, c9] at bq
              rw [c2, c19] at bt
              have p0 : (a 4 s).toInt * 1 ≤ (a 4 s).toInt * (q 1).toInt := Int.mul_le_mul_of_nonneg_left (by omega) (by omega)
              have p1 : (a 4 s).toInt * (q 1).toInt ≤ (a 4 s).toInt * 9 := Int.mul_le_mul_of_nonneg_left (by omega) (by omega)
              show 1 ≤ a 4 s * q 1
              rw [i32_le, i32_mul (by omega) (by omega), c1]
              omega
            · refine PLc_set hP (fun z' hz' => ⟨fun y => absurd y.symm (nI_nm1 (by omega)), fun y => ?_⟩) ⟨fun _ => rfl, fun _ => rfl⟩ (fun s' z' hs' e hz' => ?_) (fun s' hs' e => ?_)
              · exfalso
                have y : upd (a 3) z (-1) z' = nI s := y
                by_cases e : z' = z
                · rw [e, upd_e] at y
                  exact nI_nm1 (by omega) y.symm
                · rw [upd_n e] at y
                  exact key1 z' hz' e y
              · show upd (a 3) z (-1) z' = nI s' ↔ _
                by_cases e2 : z' = z
                · rw [e2, upd_e]
                  exact ⟨fun y => absurd y.symm (nI_nm1 (by omega)), fun y => absurd y (key3 s' hs' e)⟩
                · rw [upd_n e2]
              · show nI s = nI s' ↔ f 3 = nI s'
                rw [hq3]
                exact ⟨fun y => absurd (nI_inj (by omega) (by omega) y).symm e, fun y => absurd y.symm (nI_nm1 (by omega))⟩
            · simp only [in91, i91_0, i91_1, i91_2, i91_5, i91_8, i91_9, i91_10, i91_13, i91_14, i91_15, i91_18, i91_19, i91_20, i91_21, i91_22, i91_25, i91_26, i91_27, i91_28, i91_31, i91_32, i91_35, i91_36, i91_39, i91_40, i91_41, i91_42, i91_45, i91_46, i91_47, i91_48, i91_49, i91_52, i91_53, i91_54, i91_55, i91_58, i91_59, i91_62, i91_63, i91_64, i91_65, i91_67, i91_68, i91_71, i91_72, i91_75, i91_76, i91_77, i91_78, i91_79, i91_80, i91_81, i91_84, i91_85, i91_86, i91_87, i91_90, i91_93, i91_94, i91_97, i91_98, i91_101, i91_102, i91_103, i91_104, i91_105, i91_106, i91_107, i91_110, i91_111, i91_113, i91_116, i91_119, i91_120, i91_122, i91_125, i91_127, i91_130, i91_131, i91_132, i91_133, i91_136, i91_137, i91_138, i91_141, i91_142, i91_145, i91_146, i91_149, nl_i, nl_r, nl_0, nl_j, nb0, nb1, nbI, orv_s, konN_v, konN_n, konN_e, true_and, and_true, and_self, if_true, if_false, ite_true, ite_false, isR_ref, true_or, or_true, isR_null, rg10, rg11, rg12, rg13, rg14, rg15, rg16, rh13, rh14, rh15, rh16, bI_T, bI_F, bI_Fb, i1z, Bool.false_eq_true, lc_k hL, lc_f0 hL, lc_f1 hL, lc_f2 hL, lc_f4 hL, lc_f5 hL, lc_f6 hL, lc_f7 hL, lc_f8 hL, lc_f9 hL, lc_k0 hL, lc_l0 hL, lc_k1 hL, lc_l1 hL, lc_k2 hL, lc_l2 hL, lc_k3 hL, lc_l3 hL, lc_k4 hL, lc_l4 hL, lc_k L2, lc_f0 L2, lc_f1 L2, lc_f2 L2, lc_f4 L2, lc_f5 L2, lc_f6 L2, lc_f7 L2, lc_f8 L2, lc_f9 L2, lc_k0 L2, lc_l0 L2, lc_k1 L2, lc_l1 L2, lc_k2 L2, lc_l2 L2, lc_k3 L2, lc_l3 L2, lc_k4 L2, lc_l4 L2, lz_R hL hz, lz_k hL hz, lz_l hL hz, lz_0 hL hz, lz_1 hL hz, lz_2 hL hz, lz_3 hL hz, lz_4 hL hz, lz_h hL hz, ls_R hL hs, ls_k hL hs, ls_0 hL hs, ls_1 hL hs, ls_2 hL hs, ls_3 hL hs, ls_k L2 hs, ls_0 L2 hs, upf_ne a _ (show ¬ (4 : Nat) = 6 by decide), lw_R hL k20, lw_k hL k20, lw_l hL k20, lw_3 hL k20, ib04, ib14, ib24, ib34, ib05, ib15, ib25, ib35, ib45, zn_0, zn_1, zn_2, zn_3, zn_4, s_atz hL hI hP hz, s_atq hL hI hP, hq3, h0, s0, m1, m2, is, cs, iz, cz, ik, ck, hk, nI_pred, ko, hup', hlo']
          · have hf : moveF sa q z (f, a) = (f, a) := by
              unfold moveF toQuF
              dsimp only
              rw [if_pos hv, if_pos hq, zs, hcor, if_neg hup, if_pos hlo, if_pos hq, if_neg hq3]
            have f3 : ((0 : Int32) ≤ f 3) = True := by
              rcases i4 with e | ⟨s', hs', e1, -⟩
              · exact absurd e.1 hq3
              · rw [e1]; exact eq_true (nI_pos' (by omega))
            rw [hf]
            refine ⟨g, p, Sx.rf, h, fun d K => ?_⟩
            simp only [in91, i91_0, i91_1, i91_2, i91_5, i91_8, i91_9, i91_10, i91_13, i91_14, i91_15, i91_18, i91_19, i91_20, i91_21, i91_22, i91_25, i91_26, i91_27, i91_28, i91_31, i91_32, i91_35, i91_36, i91_39, i91_40, i91_41, i91_42, i91_45, i91_46, i91_47, i91_48, i91_49, i91_52, i91_53, i91_54, i91_55, i91_58, i91_59, i91_62, i91_63, i91_64, i91_65, i91_67, i91_68, i91_71, i91_72, i91_75, i91_76, i91_77, i91_78, i91_79, i91_80, i91_81, i91_84, i91_85, i91_86, i91_87, i91_90, i91_93, i91_94, i91_97, i91_98, i91_101, i91_102, i91_103, i91_104, i91_105, i91_106, i91_107, i91_110, i91_111, i91_113, i91_116, i91_119, i91_120, i91_122, i91_125, i91_127, i91_130, i91_131, i91_132, i91_133, i91_136, i91_137, i91_138, i91_141, i91_142, i91_145, i91_146, i91_149, nl_i, nl_r, nl_0, nl_j, nb0, nb1, nbI, orv_s, konN_v, konN_n, konN_e, true_and, and_true, and_self, if_true, if_false, ite_true, ite_false, isR_ref, true_or, or_true, isR_null, rg10, rg11, rg12, rg13, rg14, rg15, rg16, rh13, rh14, rh15, rh16, bI_T, bI_F, bI_Fb, i1z, Bool.false_eq_true, lc_k hL, lc_f0 hL, lc_f1 hL, lc_f2 hL, lc_f4 hL, lc_f5 hL, lc_f6 hL, lc_f7 hL, lc_f8 hL, lc_f9 hL, lc_k0 hL, lc_l0 hL, lc_k1 hL, lc_l1 hL, lc_k2 hL, lc_l2 hL, lc_k3 hL, lc_l3 hL, lc_k4 hL, lc_l4 hL, lz_R hL hz, lz_k hL hz, lz_l hL hz, lz_0 hL hz, lz_1 hL hz, lz_2 hL hz, lz_3 hL hz, lz_4 hL hz, lz_h hL hz, ls_R hL hs, ls_k hL hs, ls_0 hL hs, ls_1 hL hs, ls_2 hL hs, ls_3 hL hs, lw_R hL k20, lw_k hL k20, lw_l hL k20, lw_0 hL k20, lw_1 hL k20, lw_2 hL k20, lw_3 hL k20, ib04, ib14, ib24, ib34, ib05, ib15, ib25, ib35, ib45, zn_0, zn_1, zn_2, zn_3, zn_4, s_atz hL hI hP hz, s_atq hL hI hP, f3, h0, s0, is, cs, iz, cz, hk, ik, ck, nI_pred, hup', hlo']
        · have hf : moveF sa q z (f, a) = (f, a) := by
            unfold moveF
            dsimp only
            rw [if_pos hv, if_pos hq, zs, hcor, if_neg hup, if_neg hlo]
          have hlo' : (a 5 s < sa 4 z + a 10 k) = True := eq_true (Int32.not_le.mp hlo)
          rw [hf]
          refine ⟨g, p, Sx.rf, h, fun d K => ?_⟩
          simp only [in91, i91_0, i91_1, i91_2, i91_5, i91_8, i91_9, i91_10, i91_13, i91_14, i91_15, i91_18, i91_19, i91_20, i91_21, i91_22, i91_25, i91_26, i91_27, i91_28, i91_31, i91_32, i91_35, i91_36, i91_39, i91_40, i91_41, i91_42, i91_45, i91_46, i91_47, i91_48, i91_49, i91_52, i91_53, i91_54, i91_55, i91_58, i91_59, i91_62, i91_63, i91_64, i91_65, i91_67, i91_68, i91_71, i91_72, i91_75, i91_76, i91_77, i91_78, i91_79, i91_80, i91_81, i91_84, i91_85, i91_86, i91_87, i91_90, i91_93, i91_94, i91_97, i91_98, i91_101, i91_102, i91_103, i91_104, i91_105, i91_106, i91_107, i91_110, i91_111, i91_113, i91_116, i91_119, i91_120, i91_122, i91_125, i91_127, i91_130, i91_131, i91_132, i91_133, i91_136, i91_137, i91_138, i91_141, i91_142, i91_145, i91_146, i91_149, nl_i, nl_r, nl_0, nl_j, nb0, nb1, nbI, orv_s, konN_v, konN_n, konN_e, true_and, and_true, and_self, if_true, if_false, ite_true, ite_false, isR_ref, true_or, or_true, isR_null, rg10, rg11, rg12, rg13, rg14, rg15, rg16, rh13, rh14, rh15, rh16, bI_T, bI_F, bI_Fb, i1z, Bool.false_eq_true, lc_k hL, lc_f0 hL, lc_f1 hL, lc_f2 hL, lc_f4 hL, lc_f5 hL, lc_f6 hL, lc_f7 hL, lc_f8 hL, lc_f9 hL, lc_k0 hL, lc_l0 hL, lc_k1 hL, lc_l1 hL, lc_k2 hL, lc_l2 hL, lc_k3 hL, lc_l3 hL, lc_k4 hL, lc_l4 hL, lz_R hL hz, lz_k hL hz, lz_l hL hz, lz_0 hL hz, lz_1 hL hz, lz_2 hL hz, lz_3 hL hz, lz_4 hL hz, lz_h hL hz, ls_R hL hs, ls_k hL hs, ls_0 hL hs, ls_1 hL hs, ls_2 hL hs, ls_3 hL hs, lw_R hL k20, lw_k hL k20, lw_l hL k20, lw_0 hL k20, lw_1 hL k20, lw_2 hL k20, lw_3 hL k20, ib04, ib14, ib24, ib34, ib05, ib15, ib25, ib35, ib45, zn_0, zn_1, zn_2, zn_3, zn_4, s_atz hL hI hP hz, h0, s0, is, cs, iz, cz, hk, ik, ck, nI_pred, hup', hlo']
    · have hq : ¬ nI z = q 0 - 1 := fun y => by
        rw [hS.1.1, nI_pred] at y
        exact hlast (nI_inj (by omega) (by omega) y)
      have hq' : (nI z = nI m) = False := eq_false (fun y => hlast (nI_inj (by omega) (by omega) y))
      have hz1 : z + 1 < m + 1 := by omega
      have n0 : (nI (z + 1) < 0) = False := eq_false (nI_pos (by omega))
      by_cases hup : sa 5 z + 0 < a 5 s
      · have hf : moveF sa q z (f, a) = (f, spoilL (m + 1) (nI s) a) := by
          unfold moveF
          dsimp only
          rw [if_pos hv, if_neg hq, zs, if_pos hup, zq, h0]
        refine ⟨_, _, xo _ _, spoil hf, fun d K => ?_⟩
        simp only [in91, i91_0, i91_1, i91_2, i91_5, i91_8, i91_9, i91_10, i91_13, i91_14, i91_15, i91_18, i91_19, i91_20, i91_21, i91_22, i91_25, i91_26, i91_27, i91_28, i91_31, i91_32, i91_35, i91_36, i91_39, i91_40, i91_41, i91_42, i91_45, i91_46, i91_47, i91_48, i91_49, i91_52, i91_53, i91_54, i91_55, i91_58, i91_59, i91_62, i91_63, i91_64, i91_65, i91_67, i91_68, i91_71, i91_72, i91_75, i91_76, i91_77, i91_78, i91_79, i91_80, i91_81, i91_84, i91_85, i91_86, i91_87, i91_90, i91_93, i91_94, i91_97, i91_98, i91_101, i91_102, i91_103, i91_104, i91_105, i91_106, i91_107, i91_110, i91_111, i91_113, i91_116, i91_119, i91_120, i91_122, i91_125, i91_127, i91_130, i91_131, i91_132, i91_133, i91_136, i91_137, i91_138, i91_141, i91_142, i91_145, i91_146, i91_149, in89, i89_0, i89_1, i89_3, i89_6, i89_7, i89_8, i89_11, nl_i, nl_r, nl_0, nl_j, nb0, nb1, nbI, orv_s, konN_v, konN_n, konN_e, true_and, and_true, and_self, if_true, if_false, ite_true, ite_false, isR_ref, true_or, or_true, isR_null, rg10, rg11, rg12, rg13, rg14, rg15, rg16, rh13, rh14, rh15, rh16, bI_T, bI_F, bI_Fb, i1z, Bool.false_eq_true, lc_k hL, lc_f0 hL, lc_f1 hL, lc_f2 hL, lc_f4 hL, lc_f5 hL, lc_f6 hL, lc_f7 hL, lc_f8 hL, lc_f9 hL, lc_k0 hL, lc_l0 hL, lc_k1 hL, lc_l1 hL, lc_k2 hL, lc_l2 hL, lc_k3 hL, lc_l3 hL, lc_k4 hL, lc_l4 hL, lz_R hL hz, lz_k hL hz, lz_l hL hz, lz_0 hL hz, lz_1 hL hz, lz_2 hL hz, lz_3 hL hz, lz_4 hL hz, lz_h hL hz, ls_R hL hs, ls_k hL hs, ls_0 hL hs, ls_1 hL hs, ls_2 hL hs, ls_3 hL hs, ib04, ib14, ib24, ib34, ib05, ib15, ib25, ib35, ib45, zn_0, zn_1, zn_2, zn_3, zn_4, s_atz hL hI hP hz, h0, s0, is, cs, iz, cz, nI_pred, hq', ← nI_succ, ko, eq_false (Int32.not_le.mpr hup)]
      · have hup' : (a 5 s ≤ sa 5 z + 0) = True := eq_true (Int32.not_lt.mp hup)
        by_cases hlo : sa 4 z + 0 ≤ a 5 s
        · have hlo' : (a 5 s < sa 4 z + 0) = False := eq_false (Int32.not_lt.mpr hlo)
          by_cases hq3 : a 3 (z + 1) = -1
          · have hf : moveF sa q z (f, a) = (f, upf a 3 (upd (upd (a 3) z (-1)) (z + 1) (nI s))) := by
              unfold moveF toNxF
              dsimp only
              rw [if_pos hv, if_neg hq, zs, if_neg hup, if_pos hlo, if_neg hq, if_pos ⟨by omega, hq3⟩, h0]
            rw [hf]
            have x3 : Sx (Aw l D (m + 1) ns) 0 g _ := Sx.of (Sm.wF (k := 3) (v := .int (nI (z + 1))) (Aw_s hs)) rfl rfl
            refine ⟨_, upd p s (nI (z + 1)), x3, h.nw x3 ((hL.ws3 hap hs).cf rfl (fun _ y => y) (fun i hi => upf_ne _ _ hi)) ?_ ?_, fun d K => ?_⟩
            · exact INV_st (s := s) (v := 5) hI rfl i4 (H3_mv i5 n20 hs hz hz1 h0 h6 hq3) (fun i g1 g2 => upf_ne _ _ g1) (Or.inr rfl) v5
            · have val : ∀ j, upd (upd (a 3) z (-1)) (z + 1) (nI s) j = if j = z + 1 then nI s else if j = z then -1 else a 3 j := fun j => rfl
              refine PLc_set hP (fun z' hz' => ?_) ⟨fun y => absurd y (nI_nm1 (by omega)), fun y => absurd y key2⟩ (fun s' z' hs' e hz' => ?_) (fun s' hs' e => Iff.rfl)
              · show nI (z + 1) = nI z' ↔ upd (upd (a 3) z (-1)) (z + 1) (nI s) z' = nI s
                rw [val]
                by_cases e1 : z' = z + 1
                · rw [if_pos e1, e1]
                  exact ⟨fun _ => rfl, fun _ => rfl⟩
                · rw [if_neg e1]
                  refine ⟨fun y => absurd (nI_inj (by omega) (by omega) y).symm e1, fun y => ?_⟩
                  by_cases e2 : z' = z
                  · rw [if_pos e2] at y
                    exact absurd y.symm (nI_nm1 (by omega))
                  · rw [if_neg e2] at y
                    exact absurd y (key1 z' hz' e2)
              · show upd (upd (a 3) z (-1)) (z + 1) (nI s) z' = nI s' ↔ _
                rw [val]
                by_cases e1 : z' = z + 1
                · rw [if_pos e1, e1, hq3]
                  exact ⟨fun y => absurd (nI_inj (by omega) (by omega) y).symm e, fun y => absurd y.symm (nI_nm1 (by omega))⟩
                · rw [if_neg e1]
                  by_cases e2 : z' = z
                  · rw [if_pos e2, e2]
                    exact ⟨fun y => absurd y.symm (nI_nm1 (by omega)), fun y => absurd y (key3 s' hs' e)⟩
                  · rw [if_neg e2]
            · simp only [in91, i91_0, i91_1, i91_2, i91_5, i91_8, i91_9, i91_10, i91_13, i91_14, i91_15, i91_18, i91_19, i91_20, i91_21, i91_22, i91_25, i91_26, i91_27, i91_28, i91_31, i91_32, i91_35, i91_36, i91_39, i91_40, i91_41, i91_42, i91_45, i91_46, i91_47, i91_48, i91_49, i91_52, i91_53, i91_54, i91_55, i91_58, i91_59, i91_62, i91_63, i91_64, i91_65, i91_67, i91_68, i91_71, i91_72, i91_75, i91_76, i91_77, i91_78, i91_79, i91_80, i91_81, i91_84, i91_85, i91_86, i91_87, i91_90, i91_93, i91_94, i91_97, i91_98, i91_101, i91_102, i91_103, i91_104, i91_105, i91_106, i91_107, i91_110, i91_111, i91_113, i91_116, i91_119, i91_120, i91_122, i91_125, i91_127, i91_130, i91_131, i91_132, i91_133, i91_136, i91_137, i91_138, i91_141, i91_142, i91_145, i91_146, i91_149, nl_i, nl_r, nl_0, nl_j, nb0, nb1, nbI, orv_s, konN_v, konN_n, konN_e, true_and, and_true, and_self, if_true, if_false, ite_true, ite_false, isR_ref, true_or, or_true, isR_null, rg10, rg11, rg12, rg13, rg14, rg15, rg16, rh13, rh14, rh15, rh16, bI_T, bI_F, bI_Fb, i1z, Bool.false_eq_true, lc_k hL, lc_f0 hL, lc_f1 hL, lc_f2 hL, lc_f4 hL, lc_f5 hL, lc_f6 hL, lc_f7 hL, lc_f8 hL, lc_f9 hL, lc_k0 hL, lc_l0 hL, lc_k1 hL, lc_l1 hL, lc_k2 hL, lc_l2 hL, lc_k3 hL, lc_l3 hL, lc_k4 hL, lc_l4 hL, lz_R hL hz, lz_k hL hz, lz_l hL hz, lz_0 hL hz, lz_1 hL hz, lz_2 hL hz, lz_3 hL hz, lz_4 hL hz, lz_h hL hz, ls_R hL hs, ls_k hL hs, ls_0 hL hs, ls_1 hL hs, ls_2 hL hs, ls_3 hL hs, ib04, ib14, ib24, ib34, ib05, ib15, ib25, ib35, ib45, zn_0, zn_1, zn_2, zn_3, zn_4, s_atz hL hI hP hz, s_atz hL hI hP hz1, hq3, h0, s0, m1, n0, is, cs, iz, cz, nI_pred, hq', ← nI_succ, hup', hlo']
          · have hf : moveF sa q z (f, a) = (f, a) := by
              unfold moveF toNxF
              dsimp only
              rw [if_pos hv, if_neg hq, zs, if_neg hup, if_pos hlo, if_neg hq, if_neg (fun y => hq3 y.2)]
            have f3 : ((0 : Int32) ≤ a 3 (z + 1)) = True := by
              rcases i5.1 (z + 1) hz1 with e | ⟨s', hs', e1, -⟩
              · exact absurd e hq3
              · rw [e1]; exact eq_true (nI_pos' (by omega))
            rw [hf]
            refine ⟨g, p, Sx.rf, h, fun d K => ?_⟩
            simp only [in91, i91_0, i91_1, i91_2, i91_5, i91_8, i91_9, i91_10, i91_13, i91_14, i91_15, i91_18, i91_19, i91_20, i91_21, i91_22, i91_25, i91_26, i91_27, i91_28, i91_31, i91_32, i91_35, i91_36, i91_39, i91_40, i91_41, i91_42, i91_45, i91_46, i91_47, i91_48, i91_49, i91_52, i91_53, i91_54, i91_55, i91_58, i91_59, i91_62, i91_63, i91_64, i91_65, i91_67, i91_68, i91_71, i91_72, i91_75, i91_76, i91_77, i91_78, i91_79, i91_80, i91_81, i91_84, i91_85, i91_86, i91_87, i91_90, i91_93, i91_94, i91_97, i91_98, i91_101, i91_102, i91_103, i91_104, i91_105, i91_106, i91_107, i91_110, i91_111, i91_113, i91_116, i91_119, i91_120, i91_122, i91_125, i91_127, i91_130, i91_131, i91_132, i91_133, i91_136, i91_137, i91_138, i91_141, i91_142, i91_145, i91_146, i91_149, nl_i, nl_r, nl_0, nl_j, nb0, nb1, nbI, orv_s, konN_v, konN_n, konN_e, true_and, and_true, and_self, if_true, if_false, ite_true, ite_false, isR_ref, true_or, or_true, isR_null, rg10, rg11, rg12, rg13, rg14, rg15, rg16, rh13, rh14, rh15, rh16, bI_T, bI_F, bI_Fb, i1z, Bool.false_eq_true, lc_k hL, lc_f0 hL, lc_f1 hL, lc_f2 hL, lc_f4 hL, lc_f5 hL, lc_f6 hL, lc_f7 hL, lc_f8 hL, lc_f9 hL, lc_k0 hL, lc_l0 hL, lc_k1 hL, lc_l1 hL, lc_k2 hL, lc_l2 hL, lc_k3 hL, lc_l3 hL, lc_k4 hL, lc_l4 hL, lz_R hL hz, lz_k hL hz, lz_l hL hz, lz_0 hL hz, lz_1 hL hz, lz_2 hL hz, lz_3 hL hz, lz_4 hL hz, lz_h hL hz, ls_R hL hs, ls_k hL hs, ls_0 hL hs, ls_1 hL hs, ls_2 hL hs, ls_3 hL hs, ib04, ib14, ib24, ib34, ib05, ib15, ib25, ib35, ib45, zn_0, zn_1, zn_2, zn_3, zn_4, s_atz hL hI hP hz, s_atz hL hI hP hz1, f3, h0, s0, is, cs, iz, cz, nI_pred, hq', ← nI_succ, hup', hlo']
        · have hf : moveF sa q z (f, a) = (f, a) := by
            unfold moveF
            dsimp only
            rw [if_pos hv, if_neg hq, zs, if_neg hup, if_neg hlo]
          have hlo' : (a 5 s < sa 4 z + 0) = True := eq_true (Int32.not_le.mp hlo)
          rw [hf]
          refine ⟨g, p, Sx.rf, h, fun d K => ?_⟩
          simp only [in91, i91_0, i91_1, i91_2, i91_5, i91_8, i91_9, i91_10, i91_13, i91_14, i91_15, i91_18, i91_19, i91_20, i91_21, i91_22, i91_25, i91_26, i91_27, i91_28, i91_31, i91_32, i91_35, i91_36, i91_39, i91_40, i91_41, i91_42, i91_45, i91_46, i91_47, i91_48, i91_49, i91_52, i91_53, i91_54, i91_55, i91_58, i91_59, i91_62, i91_63, i91_64, i91_65, i91_67, i91_68, i91_71, i91_72, i91_75, i91_76, i91_77, i91_78, i91_79, i91_80, i91_81, i91_84, i91_85, i91_86, i91_87, i91_90, i91_93, i91_94, i91_97, i91_98, i91_101, i91_102, i91_103, i91_104, i91_105, i91_106, i91_107, i91_110, i91_111, i91_113, i91_116, i91_119, i91_120, i91_122, i91_125, i91_127, i91_130, i91_131, i91_132, i91_133, i91_136, i91_137, i91_138, i91_141, i91_142, i91_145, i91_146, i91_149, nl_i, nl_r, nl_0, nl_j, nb0, nb1, nbI, orv_s, konN_v, konN_n, konN_e, true_and, and_true, and_self, if_true, if_false, ite_true, ite_false, isR_ref, true_or, or_true, isR_null, rg10, rg11, rg12, rg13, rg14, rg15, rg16, rh13, rh14, rh15, rh16, bI_T, bI_F, bI_Fb, i1z, Bool.false_eq_true, lc_k hL, lc_f0 hL, lc_f1 hL, lc_f2 hL, lc_f4 hL, lc_f5 hL, lc_f6 hL, lc_f7 hL, lc_f8 hL, lc_f9 hL, lc_k0 hL, lc_l0 hL, lc_k1 hL, lc_l1 hL, lc_k2 hL, lc_l2 hL, lc_k3 hL, lc_l3 hL, lc_k4 hL, lc_l4 hL, lz_R hL hz, lz_k hL hz, lz_l hL hz, lz_0 hL hz, lz_1 hL hz, lz_2 hL hz, lz_3 hL hz, lz_4 hL hz, lz_h hL hz, ls_R hL hs, ls_k hL hs, ls_0 hL hs, ls_1 hL hs, ls_2 hL hs, ls_3 hL hs, ib04, ib14, ib24, ib34, ib05, ib15, ib25, ib35, ib45, zn_0, zn_1, zn_2, zn_3, zn_4, s_atz hL hI hP hz, h0, s0, is, cs, iz, cz, nI_pred, hq', ← nI_succ, hup', hlo']
end MV
