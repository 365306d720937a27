/-! THE LAW'S LINE: the quench -/
theorem dec1 {x : Int32} (h : 1 ≤ x) : (x - 1 ≤ 0) = (x - 1 = 0) ∧ (¬ x - 1 = 0 → 1 ≤ x - 1) := by
  rw [i32_le] at h
  have t : (1 : Int) ≤ x.toInt := h
  have e : (x - 1).toInt = x.toInt - 1 := i32_sub (y := 1) (by show _ ≤ x.toInt - 1; omega) (by show x.toInt - 1 < _; have := x.toInt_lt; omega)
  refine ⟨propext ⟨fun z => ?_, fun z => by rw [z]; decide⟩, fun z => ?_⟩
  · rw [i32_le, e] at z
    have z : x.toInt - 1 ≤ 0 := z
    refine Int32.toInt_inj.mp ?_
    rw [e]
    show x.toInt - 1 = 0
    omega
  · rw [i32_le, e]
    show (1 : Int) ≤ x.toInt - 1
    have : ¬ x.toInt - 1 = 0 := fun y => z (Int32.toInt_inj.mp (by rw [e]; exact y))
    omega
theorem lim_up {x q : Int32} (hx : -50 ≤ x ∧ x ≤ 50) (hq : 0 ≤ q ∧ q ≤ 20) : lim (x + q) (-50) 50 = if x + q < 50 then x + q else 50 := by
  have bx := i32_bd hx
  have bq := i32_bd hq
  have cm : (-50 : Int32).toInt = -50 := rfl
  have c50 : (50 : Int32).toInt = 50 := rfl
  have c0 : (0 : Int32).toInt = 0 := rfl
  have c20 : (20 : Int32).toInt = 20 := rfl
  rw [cm, c50] at bx
  rw [c0, c20] at bq
  have e : (x + q).toInt = x.toInt + q.toInt := i32_add (by omega) (by omega)
  unfold lim
  rw [if_pos (by rw [i32_le, e, cm]; omega)]
  by_cases h : x + q < 50
  · rw [if_pos h, if_pos]
    rw [i32_lt] at h
    rw [i32_le]
    omega
  · rw [if_neg h]
    by_cases h2 : x + q ≤ 50
    · rw [if_pos h2]
      rw [i32_lt] at h
      rw [i32_le] at h2
      exact Int32.toInt_inj.mp (by omega)
    · rw [if_neg h2]
theorem lim_dn {x q : Int32} (hx : -50 ≤ x ∧ x ≤ 50) (hq : 0 ≤ q ∧ q ≤ 20) : lim (x + -q) (-50) 50 = if -50 < x - q then x - q else -50 := by
  have bx := i32_bd hx
  have bq := i32_bd hq
  have cm : (-50 : Int32).toInt = -50 := rfl
  have c50 : (50 : Int32).toInt = 50 := rfl
  have c0 : (0 : Int32).toInt = 0 := rfl
  have c20 : (20 : Int32).toInt = 20 := rfl
  rw [cm, c50] at bx
  rw [c0, c20] at bq
  rw [← Int32.sub_eq_add_neg]
  have e : (x - q).toInt = x.toInt - q.toInt := i32_sub (by omega) (by omega)
  unfold lim
  by_cases h : -50 < x - q
  · rw [if_pos h]
    rw [i32_lt, e, cm] at h
    rw [if_pos (by rw [i32_le, e, cm]; omega), if_pos (by rw [i32_le, e, c50]; omega)]
  · rw [if_neg h]
    by_cases h2 : -50 ≤ x - q
    · rw [i32_lt, e, cm] at h
      have h3 : x - q = -50 := Int32.toInt_inj.mp (by rw [e, cm]; rw [i32_le, e, cm] at h2; omega)
      rw [h3]
      decide
    · rw [if_neg h2]
/-- a sheet that was not in a zone gets another state; the holders stay -/
theorem H3_st {nz ns s : Nat} {g st : Nat → Int32} {v w : Int32} (h : H3 nz ns g st) (hw : st s = w) (hw1 : ¬ w = 1) : H3 nz ns g (upd st s v) := by
  refine ⟨fun z hz => ?_, h.2⟩
  rcases h.1 z hz with e | ⟨x, hx, e1, e2⟩
  · exact Or.inl e
  · refine Or.inr ⟨x, hx, e1, ?_⟩
    rw [upd_n (fun y => by rw [y, hw] at e2; exact hw1 e2)]
    exact e2
theorem ib02 : inb 0 2 = True := eq_true (by decide)
theorem ib12 : inb 1 2 = True := eq_true (by decide)
theorem orv_n : orv none = .null := rfl
theorem nl_u : nl (some .null) = some .null := rfl
theorem i12 : ((1 : Int32) = 2) = False := eq_false (by decide)
theorem i21 : ((2 : Int32) = 1) = False := eq_false (by decide)
theorem i20 : ((2 : Int32) = 0) = False := eq_false (by decide)
theorem i01 : ((0 : Int32) = 1) = False := eq_false (by decide)
theorem i02 : ((0 : Int32) = 2) = False := eq_false (by decide)
section CO
variable {g g' : AH} {B W : Nat → Prop} {l : Nat} {D : Nat → Nat → Nat} {nz ns n c : Nat} {q pg stk : Nat → Int32} {sa : Nat → Nat → Int32} {tv : Value} {f f' : Nat → Int32} {a a' : Nat → Nat → Int32} {p p' : Nat → Int32} {z s t : Nat}
/-- a sheet leaves the quench: its place -/
theorem nI_nm2 {s : Nat} (hs : s < 2 ^ 31) : ¬ (-2 : Int32) = nI s := fun y => nI_pos hs (by rw [← y]; decide)
theorem PLc_out (hI : INV nz ns f a) (hP : PLc nz ns f a p) (hnz : nz ≤ 6) (hs : s < ns) (hh : ∀ z, z < nz → ¬ a' 3 z = nI s) (h3 : ¬ f' 3 = nI s) (hz : ∀ s' z, s' < ns → ¬ s' = s → z < nz → (a' 3 z = nI s' ↔ a 3 z = nI s')) (hq : ∀ s', s' < ns → ¬ s' = s → (f' 3 = nI s' ↔ f 3 = nI s')) : PLc nz ns f' a' (upd p s (-2)) := by
  refine ⟨fun s' hs' z hz' => ?_, fun s' hs' => ?_⟩
  · by_cases e : s' = s
    · subst e
      rw [upd_e]
      exact ⟨fun y => absurd y (nI_nm2 (by omega)), fun y => absurd y (hh z hz')⟩
    · rw [upd_n e, hz s' z hs' e hz']
      exact hP.1 s' hs' z hz'
  · by_cases e : s' = s
    · subst e
      rw [upd_e]
      exact ⟨fun y => absurd y (by decide), fun y => absurd y h3⟩
    · rw [upd_n e, hq s' hs' e]
      exact hP.2 s' hs'
theorem INV_jd (hI : INV nz ns f a) (hs : s < ns) (h6 : a 6 s = 2) {v : Int32} (hv : v = 3 ∨ v = 4) (hf2 : f' 2 = f 2) (hf3 : f' 3 = -1) (hf4 : f' 4 = 0) (h1 : ∀ x, ¬ x = 6 → ¬ 7 ≤ x → a' x = a x) (h2 : a' 6 = upd (a 6) s v) (h3 : ∀ k, k < 20 → -50 ≤ a' 10 k ∧ a' 10 k ≤ 50) : INV nz ns f' a' := by
  obtain ⟨⟨i1, i2, i3⟩, i4, i5, i7, i8, i9⟩ := hI
  refine ⟨⟨hf2.trans i1, i2, i3⟩, Or.inl ⟨hf3, hf4⟩, ?_, ?_, ?_, h3⟩
  · rw [h1 3 (by omega) (by omega), h2]
    exact H3_st i5 h6 (by decide)
  · rw [h1 1 (by omega) (by omega), h1 2 (by omega) (by omega)]
    exact i7
  · rw [h1 4 (by omega) (by omega), h1 5 (by omega) (by omega), h2]
    intro y hy
    refine ⟨(i8 y hy).1, (i8 y hy).2.1, ?_⟩
    by_cases e : y = s
    · subst e
      rw [upd_e]
      rcases hv with rfl | rfl <;> decide
    · rw [upd_n e]
      exact (i8 y hy).2.2
theorem s_cool (h : LLn g B l D nz ns q sa tv pg n f a p) :
    ∃ g' p', Sx (Aw l D nz ns) 0 g g' ∧ LLn g' B l D nz ns q sa tv pg n (quL sa q (f, a)).1 (quL sa q (f, a)).2 p' ∧ ∀ d K, EvM (d + 1) 90 [.ref l] g K = K (.inl none) g' := by
  have hL := h.1
  have hI := h.2.2.2.1
  have hS := h.2.2.2.2.2
  have hP := h.2.2.2.2.1
  have n6 : nz ≤ 6 := hS.1.2
  have n20 : ns ≤ 20 := hI.1.2.1
  have hap := h.2.1.1
  rcases hI.2.1 with ⟨h0, h4⟩ | ⟨s, hs, h0, h4, h6⟩
  · have hf : quL sa q (f, a) = (f, a) := qu_no (fun y => by rw [h0] at y; exact absurd y.1 (by decide))
    rw [hf]
    refine ⟨g, p, Sx.rf, h, fun d K => ?_⟩
    simp only [in90, i90_0, i90_1, i90_2, i90_5, i90_8, i90_9, i90_10, i90_11, i90_14, i90_15, i90_16, i90_19, i90_20, i90_23, i90_26, i90_27, i90_28, i90_31, i90_32, i90_33, i90_36, i90_37, i90_38, i90_39, i90_42, i90_43, i90_46, i90_47, i90_48, i90_49, i90_52, i90_53, i90_56, i90_57, i90_58, i90_59_N, i90_59_R, i90_62, i90_63, i90_66, i90_67, i90_70, i90_71, i90_72, i90_73, i90_76, i90_77, i90_80, i90_81, i90_84, i90_85, i90_86, i90_87, i90_90, i90_91, i90_94, i90_95, i90_97, i90_98, i90_99, i90_101, i90_104, i90_105, i90_108, i90_109, i90_112, i90_113, i90_115, i90_116, i90_117, i90_118, i90_119, i90_120, i90_122, i90_123, i90_126, i90_127, i90_128, i90_130, i90_131, i90_132, i90_133, i90_134, i90_137, i90_138, i90_141, i90_142, i90_144, i90_145, i90_148, i90_149, i90_150, i90_152, i90_153, i90_154, i90_155, i90_156, i90_159, i90_160, i90_163, i90_164, nl_i, nl_r, nl_0, nl_j, nb0, nb1, nbI, orv_s, konN_v, konN_n, konN_e, true_and, and_true, and_self, if_true, if_false, ite_true, ite_false, isR_ref, true_or, or_true, isR_null, rg10, rg11, rg12, rg13, rg14, rg15, rg16, rh13, rh14, rh15, rh16, bI_T, bI_F, bI_Fb, i1z, Bool.false_eq_true, lc_k hL, lc_f0 hL, lc_f1 hL, lc_f2 hL, lc_f4 hL, lc_f5 hL, lc_f6 hL, lc_f7 hL, lc_f8 hL, lc_f9 hL, lc_k0 hL, lc_l0 hL, lc_k1 hL, lc_l1 hL, lc_k2 hL, lc_l2 hL, lc_k3 hL, lc_l3 hL, lc_k4 hL, lc_l4 hL, s_atq hL hI hP, h0, show ((0 : Int32) ≤ -1) = False from eq_false (by decide)]
  · obtain ⟨v1, v2, v3⟩ := hI.2.2.2.2.1 s hs
    have zs : zn (f 3) = s := by rw [h0]; exact nI_clamp (by omega)
    have hv : 0 ≤ f 3 ∧ f 3 < f 2 := by
      rw [h0, hI.1.1]
      exact ⟨nI_pos' (by omega), by rw [nI_lI (by omega) (by omega)]; exact hs⟩
    have s0 : ((0 : Int32) ≤ nI s) = True := eq_true (nI_pos' (by omega))
    obtain ⟨dc1, dc2⟩ := dec1 h4
    obtain ⟨y, y1, y2⟩ := hL.1.2.2.2.2.1
    obtain rfl : y = f 4 := by
      rcases y2 with y2 | y2
      · rw [h0] at y2
        exact absurd y2 (nI_nm1 (by omega))
      · exact y2
    have at3 : atF p (-1) 0 ns = nI s := (at_quench hI hP).trans h0
    by_cases hl : f 4 - 1 = 0
    · have hf : quL sa q (f, a) = (upf (upf f 4 (f 4 - 1)) 3 (-1), judgeF sa q (f 3) a) := qu_out hv (dc1.mpr hl)
      obtain ⟨k, k2, k19, hk⟩ := th_k v1.1 v1.2
      have k20 : k < 20 := by omega
      have zk : zn (a 4 s) = k := by rw [hk]; exact nI_clamp (by omega)
      have hth : 2 ≤ a 4 (zn (f 3)) ∧ a 4 (zn (f 3)) ≤ 19 := by rw [zs]; exact v1
      have q2 : 0 ≤ q 2 ∧ q 2 ≤ 20 := (hS.2.1 (by have := hI.1.2.2; omega)).2
      have i9 := hI.2.2.2.2.2
      have lmr := fun x => lim_bd (x := x) (lo := -50) (hi := 50) (by decide)
      have L1 := hL.wn (f' := upf (upf f 4 (f 4 - 1)) 3 (-1)) hap (k := 3) (x := f 4 - 1) (Or.inr rfl) rfl (fun _ _ => Or.inl rfl)
      have bk := L1.2.2.2.2.2.1 k k20
      have ik := inbT k20 (show 20 < 2 ^ 31 by omega)
      have is := inbT hs (show ns < 2 ^ 31 by omega)
      have ck : (nI k).toNatClampNeg = k := nI_clamp (by omega)
      have cs : (nI s).toNatClampNeg = s := nI_clamp (by omega)
      have ng : (f 4 - 1 ≤ 0) = True := eq_true (dc1.mpr hl)
      have at1 : ∀ {d : Nat} {K : AO → AH → Prop}, EvM d 87 [.ref l, .int (-1)] (wF g l 3 (.int (f 4 - 1))) K = K (.inl (some (.int (nI s)))) (wF g l 3 (.int (f 4 - 1))) := fun {d K} => by rw [s_at L1 n20, at3]
      have f4 : (upf (upf f 4 (f 4 - 1)) 3 (-1)) 4 = 0 := hl
      have ph : ∀ a' : Nat → Nat → Int32, a' 3 = a 3 → PLc nz ns (upf (upf f 4 (f 4 - 1)) 3 (-1)) a' (upd p s (-2)) := fun a' ha => PLc_out hI hP n6 hs (fun z hz y => by
          rw [ha] at y
          rcases hI.2.2.1.1 z hz with e0 | ⟨s1, hs1, e1, e2⟩
          · rw [y] at e0
            exact nI_nm1 (by omega) e0
          · have := nI_inj (by omega) (by omega) (y.symm.trans e1)
            rw [← this, h6] at e2
            exact absurd e2 (by decide)) (fun y => nI_nm1 (s := s) (by omega) y.symm) (fun s' z _ _ _ => by rw [ha]) (fun s' hs' e => ⟨fun y => absurd y.symm (nI_nm1 (by omega)), fun y => absurd (nI_inj (by omega) (by omega) (h0.symm.trans y)).symm e⟩)
      have x1 : Sx (Aw l D nz ns) 0 g (wF g l 3 (.int (f 4 - 1))) := Sx.of (Sm.wF Aw_l) rfl rfl
      have xo : ∀ v, Sx (Aw l D nz ns) 0 (wF g l 3 (.int (f 4 - 1))) (wF (wF (wF g l 3 (.int (f 4 - 1))) (D 2 s) 3 (.int (-2))) (D 2 s) 2 (.int v)) := fun v => (Sx.of (Sm.wF (Aw_s hs)) rfl rfl).tr (Sx.of (Sm.wF (Aw_s hs)) rfl rfl)
      have Lo := fun v => (L1.ws3 hap hs (x := -2)).ws2 hap hs (x := v)
      rw [hf]
      by_cases hc : ¬ sa 6 k = -1 ∧ a 5 s < sa 6 k
      · have jf : judgeF sa q (f 3) a = upf (upf (upf a 6 (upd (a 6) s 4)) 8 (upd (a 8) k (a 8 k + 1))) 10 (upd (a 10) k (if a 10 k + q 2 < 50 then a 10 k + q 2 else 50)) := by
          unfold judgeF learnF
          dsimp only
          rw [if_pos hth, zs, zk, if_pos hc, ← lim_up (i9 k k20) q2]
          rfl
        rcases bk with ⟨b1, b2, b3⟩ | ⟨b, b1, ⟨b2, b3⟩, ⟨b4, b5⟩, b6, b7, b8, b9⟩
        · exact absurd b2 hc.1
        · have c1 : (sa 6 k ≤ a 5 s) = False := eq_false (Int32.not_le.mpr hc.2)
          have ko := ls_k (L1.ws3 hap hs (x := -2)) hs
          have L2 := Lo 4
          have L3 := L2.wl hap k20 (j := 1) (x := a 8 k + 1) (by omega)
          have L4 := L3.wl hap k20 (j := 3) (x := if a 10 k + q 2 < 50 then a 10 k + q 2 else 50) (by omega)
          have x4 := (x1.tr (xo 4)).tr ((Sx.of (Sm.wA (f := (upd (hA (wF (wF (wF g l 3 (.int (f 4 - 1))) (D 2 s) 3 (.int (-2))) (D 2 s) 2 (.int 4)) (D 3 k)) 1 (a 8 k + 1))) (Aw_t (nz := nz) (ns := ns) (l := l) k20)) rfl rfl).tr (Sx.of (Sm.wA (f := upd (hA (wA (wF (wF (wF g l 3 (.int (f 4 - 1))) (D 2 s) 3 (.int (-2))) (D 2 s) 2 (.int 4)) (D 3 k) (upd (hA (wF (wF (wF g l 3 (.int (f 4 - 1))) (D 2 s) 3 (.int (-2))) (D 2 s) 2 (.int 4)) (D 3 k)) 1 (a 8 k + 1))) (D 3 k)) 3 (if a 10 k + q 2 < 50 then a 10 k + q 2 else 50)) (Aw_t k20)) rfl rfl))
          refine ⟨_, _, x4, h.nw x4 (by rw [jf]; exact L4) ?_ (ph _ (by rw [jf]; rfl)), fun d K => ?_⟩
          · rw [jf]
            refine INV_jd hI hs h6 (Or.inr rfl) rfl rfl f4 (fun x g1 g2 => by dsimp only; rw [upf_ne _ _ (by omega), upf_ne _ _ (by omega), upf_ne _ _ g1]) rfl (fun y hy => ?_)
            show -50 ≤ upd (a 10) k _ y ∧ upd (a 10) k _ y ≤ 50
            by_cases e : y = k
            · rw [e, upd_e, ← lim_up (i9 k k20) q2]; exact lmr _
            · rw [upd_n e]; exact i9 y hy
          · simp only [in90, i90_0, i90_1, i90_2, i90_5, i90_8, i90_9, i90_10, i90_11, i90_14, i90_15, i90_16, i90_19, i90_20, i90_23, i90_26, i90_27, i90_28, i90_31, i90_32, i90_33, i90_36, i90_37, i90_38, i90_39, i90_42, i90_43, i90_46, i90_47, i90_48, i90_49, i90_52, i90_53, i90_56, i90_57, i90_58, i90_59_N, i90_59_R, i90_62, i90_63, i90_66, i90_67, i90_70, i90_71, i90_72, i90_73, i90_76, i90_77, i90_80, i90_81, i90_84, i90_85, i90_86, i90_87, i90_90, i90_91, i90_94, i90_95, i90_97, i90_98, i90_99, i90_101, i90_104, i90_105, i90_108, i90_109, i90_112, i90_113, i90_115, i90_116, i90_117, i90_118, i90_119, i90_120, i90_122, i90_123, i90_126, i90_127, i90_128, i90_130, i90_131, i90_132, i90_133, i90_134, i90_137, i90_138, i90_141, i90_142, i90_144, i90_145, i90_148, i90_149, i90_150, i90_152, i90_153, i90_154, i90_155, i90_156, i90_159, i90_160, i90_163, i90_164, in89, i89_0, i89_1, i89_3, i89_6, i89_7, i89_8, i89_11, nl_i, nl_r, nl_0, nl_j, nb0, nb1, nbI, orv_s, konN_v, konN_n, konN_e, true_and, and_true, and_self, if_true, if_false, ite_true, ite_false, isR_ref, true_or, or_true, isR_null, rg10, rg11, rg12, rg13, rg14, rg15, rg16, rh13, rh14, rh15, rh16, bI_T, bI_F, bI_Fb, i1z, Bool.false_eq_true, lc_k hL, lc_f0 hL, lc_f1 hL, lc_f2 hL, lc_f4 hL, lc_f5 hL, lc_f6 hL, lc_f7 hL, lc_f8 hL, lc_f9 hL, lc_k0 hL, lc_l0 hL, lc_k1 hL, lc_l1 hL, lc_k2 hL, lc_l2 hL, lc_k3 hL, lc_l3 hL, lc_k4 hL, lc_l4 hL, lc_k L1, lc_f0 L1, lc_f1 L1, lc_f2 L1, lc_f4 L1, lc_f5 L1, lc_f6 L1, lc_f7 L1, lc_f8 L1, lc_f9 L1, lc_k0 L1, lc_l0 L1, lc_k1 L1, lc_l1 L1, lc_k2 L1, lc_l2 L1, lc_k3 L1, lc_l3 L1, lc_k4 L1, lc_l4 L1, lc_k L2, lc_f0 L2, lc_f1 L2, lc_f2 L2, lc_f4 L2, lc_f5 L2, lc_f6 L2, lc_f7 L2, lc_f8 L2, lc_f9 L2, lc_k0 L2, lc_l0 L2, lc_k1 L2, lc_l1 L2, lc_k2 L2, lc_l2 L2, lc_k3 L2, lc_l3 L2, lc_k4 L2, lc_l4 L2, lc_k L3, lc_f0 L3, lc_f1 L3, lc_f2 L3, lc_f4 L3, lc_f5 L3, lc_f6 L3, lc_f7 L3, lc_f8 L3, lc_f9 L3, lc_k0 L3, lc_l0 L3, lc_k1 L3, lc_l1 L3, lc_k2 L3, lc_l2 L3, lc_k3 L3, lc_l3 L3, lc_k4 L3, lc_l4 L3, ls_R L1 hs, ls_k L1 hs, ls_0 L1 hs, ls_1 L1 hs, ls_2 L1 hs, ls_3 L1 hs, ls_R L2 hs, ls_k L2 hs, ls_0 L2 hs, ls_1 L2 hs, ls_2 L2 hs, ls_3 L2 hs, lw_R L1 k20, lw_k L1 k20, lw_l L1 k20, lw_0 L1 k20, lw_1 L1 k20, lw_2 L1 k20, lw_3 L1 k20, lw_R L2 k20, lw_k L2 k20, lw_l L2 k20, lw_0 L2 k20, lw_1 L2 k20, lw_2 L2 k20, lw_3 L2 k20, lw_R L3 k20, lw_k L3 k20, lw_l L3 k20, lw_0 L3 k20, lw_1 L3 k20, lw_2 L3 k20, lw_3 L3 k20, ib04, ib14, ib24, ib34, ib05, ib15, ib25, ib35, ib45, zn_0, zn_1, zn_2, zn_3, zn_4, s_atq hL hI hP, at1, h0, s0, y1, wF_eq, ng, is, cs, hk, ik, ck, b1, b4, b5, b6, c1, i1z, upf_ne _ _ (show ¬ (10 : Nat) = 7 + 1 by decide), upf_ne _ _ (show ¬ (10 : Nat) = 6 by decide), upf_ne _ _ (show ¬ (8 : Nat) = 6 by decide), orv_n, nl_u, ko, ib02, ib12, i12, i21, i20, i02, i01]
      · by_cases hh : ¬ sa 7 k = -1 ∧ sa 7 k < a 5 s
        · have jf : judgeF sa q (f 3) a = upf (upf (upf a 6 (upd (a 6) s 4)) 9 (upd (a 9) k (a 9 k + 1))) 10 (upd (a 10) k (if -50 < a 10 k - q 2 then a 10 k - q 2 else -50)) := by
            unfold judgeF learnF
            dsimp only
            rw [if_pos hth, zs, zk, if_neg hc, if_pos hh, ← lim_dn (i9 k k20) q2]
            rfl
          rcases bk with ⟨b1, b2, b3⟩ | ⟨b, b1, ⟨b2, b3⟩, ⟨b4, b5⟩, b6, b7, b8, b9⟩
          · exact absurd b3 hh.1
          · have nm : ¬ sa 6 k = -1 := fun y => by rw [y] at b8; exact absurd b8 (by decide)
            have c1 : (sa 6 k ≤ a 5 s) = True := eq_true (Int32.not_lt.mp (fun y => hc ⟨nm, y⟩))
            have c2 : (a 5 s ≤ sa 7 k) = False := eq_false (Int32.not_le.mpr hh.2)
            have ko := ls_k (L1.ws3 hap hs (x := -2)) hs
            have L2 := Lo 4
            have L3 := L2.wl hap k20 (j := 2) (x := a 9 k + 1) (by omega)
            have L4 := L3.wl hap k20 (j := 3) (x := if -50 < a 10 k - q 2 then a 10 k - q 2 else -50) (by omega)
            have x4 := (x1.tr (xo 4)).tr ((Sx.of (Sm.wA (f := (upd (hA (wF (wF (wF g l 3 (.int (f 4 - 1))) (D 2 s) 3 (.int (-2))) (D 2 s) 2 (.int 4)) (D 3 k)) 2 (a 9 k + 1))) (Aw_t (nz := nz) (ns := ns) (l := l) k20)) rfl rfl).tr (Sx.of (Sm.wA (f := upd (hA (wA (wF (wF (wF g l 3 (.int (f 4 - 1))) (D 2 s) 3 (.int (-2))) (D 2 s) 2 (.int 4)) (D 3 k) (upd (hA (wF (wF (wF g l 3 (.int (f 4 - 1))) (D 2 s) 3 (.int (-2))) (D 2 s) 2 (.int 4)) (D 3 k)) 2 (a 9 k + 1))) (D 3 k)) 3 (if -50 < a 10 k - q 2 then a 10 k - q 2 else -50)) (Aw_t k20)) rfl rfl))
            refine ⟨_, _, x4, h.nw x4 (by rw [jf]; exact L4) ?_ (ph _ (by rw [jf]; rfl)), fun d K => ?_⟩
            · rw [jf]
              refine INV_jd hI hs h6 (Or.inr rfl) rfl rfl f4 (fun x g1 g2 => by dsimp only; rw [upf_ne _ _ (by omega), upf_ne _ _ (by omega), upf_ne _ _ g1]) rfl (fun y hy => ?_)
              show -50 ≤ upd (a 10) k _ y ∧ upd (a 10) k _ y ≤ 50
              by_cases e : y = k
              · rw [e, upd_e, ← lim_dn (i9 k k20) q2]; exact lmr _
              · rw [upd_n e]; exact i9 y hy
            · simp only [in90, i90_0, i90_1, i90_2, i90_5, i90_8, i90_9, i90_10, i90_11, i90_14, i90_15, i90_16, i90_19, i90_20, i90_23, i90_26, i90_27, i90_28, i90_31, i90_32, i90_33, i90_36, i90_37, i90_38, i90_39, i90_42, i90_43, i90_46, i90_47, i90_48, i90_49, i90_52, i90_53, i90_56, i90_57, i90_58, i90_59_N, i90_59_R, i90_62, i90_63, i90_66, i90_67, i90_70, i90_71, i90_72, i90_73, i90_76, i90_77, i90_80, i90_81, i90_84, i90_85, i90_86, i90_87, i90_90, i90_91, i90_94, i90_95, i90_97, i90_98, i90_99, i90_101, i90_104, i90_105, i90_108, i90_109, i90_112, i90_113, i90_115, i90_116, i90_117, i90_118, i90_119, i90_120, i90_122, i90_123, i90_126, i90_127, i90_128, i90_130, i90_131, i90_132, i90_133, i90_134, i90_137, i90_138, i90_141, i90_142, i90_144, i90_145, i90_148, i90_149, i90_150, i90_152, i90_153, i90_154, i90_155, i90_156, i90_159, i90_160, i90_163, i90_164, in89, i89_0, i89_1, i89_3, i89_6, i89_7, i89_8, i89_11, nl_i, nl_r, nl_0, nl_j, nb0, nb1, nbI, orv_s, konN_v, konN_n, konN_e, true_and, and_true, and_self, if_true, if_false, ite_true, ite_false, isR_ref, true_or, or_true, isR_null, rg10, rg11, rg12, rg13, rg14, rg15, rg16, rh13, rh14, rh15, rh16, bI_T, bI_F, bI_Fb, i1z, Bool.false_eq_true, lc_k hL, lc_f0 hL, lc_f1 hL, lc_f2 hL, lc_f4 hL, lc_f5 hL, lc_f6 hL, lc_f7 hL, lc_f8 hL, lc_f9 hL, lc_k0 hL, lc_l0 hL, lc_k1 hL, lc_l1 hL, lc_k2 hL, lc_l2 hL, lc_k3 hL, lc_l3 hL, lc_k4 hL, lc_l4 hL, lc_k L1, lc_f0 L1, lc_f1 L1, lc_f2 L1, lc_f4 L1, lc_f5 L1, lc_f6 L1, lc_f7 L1, lc_f8 L1, lc_f9 L1, lc_k0 L1, lc_l0 L1, lc_k1 L1, lc_l1 L1, lc_k2 L1, lc_l2 L1, lc_k3 L1, lc_l3 L1, lc_k4 L1, lc_l4 L1, lc_k L2, lc_f0 L2, lc_f1 L2, lc_f2 L2, lc_f4 L2, lc_f5 L2, lc_f6 L2, lc_f7 L2, lc_f8 L2, lc_f9 L2, lc_k0 L2, lc_l0 L2, lc_k1 L2, lc_l1 L2, lc_k2 L2, lc_l2 L2, lc_k3 L2, lc_l3 L2, lc_k4 L2, lc_l4 L2, lc_k L3, lc_f0 L3, lc_f1 L3, lc_f2 L3, lc_f4 L3, lc_f5 L3, lc_f6 L3, lc_f7 L3, lc_f8 L3, lc_f9 L3, lc_k0 L3, lc_l0 L3, lc_k1 L3, lc_l1 L3, lc_k2 L3, lc_l2 L3, lc_k3 L3, lc_l3 L3, lc_k4 L3, lc_l4 L3, ls_R L1 hs, ls_k L1 hs, ls_0 L1 hs, ls_1 L1 hs, ls_2 L1 hs, ls_3 L1 hs, ls_R L2 hs, ls_k L2 hs, ls_0 L2 hs, ls_1 L2 hs, ls_2 L2 hs, ls_3 L2 hs, lw_R L1 k20, lw_k L1 k20, lw_l L1 k20, lw_0 L1 k20, lw_1 L1 k20, lw_2 L1 k20, lw_3 L1 k20, lw_R L2 k20, lw_k L2 k20, lw_l L2 k20, lw_0 L2 k20, lw_1 L2 k20, lw_2 L2 k20, lw_3 L2 k20, lw_R L3 k20, lw_k L3 k20, lw_l L3 k20, lw_0 L3 k20, lw_1 L3 k20, lw_2 L3 k20, lw_3 L3 k20, ib04, ib14, ib24, ib34, ib05, ib15, ib25, ib35, ib45, zn_0, zn_1, zn_2, zn_3, zn_4, s_atq hL hI hP, at1, h0, s0, y1, wF_eq, ng, is, cs, hk, ik, ck, b1, b4, b5, b6, b7, c1, c2, i1z, upf_ne _ _ (show ¬ (10 : Nat) = 7 + 2 by decide), upf_ne _ _ (show ¬ (10 : Nat) = 6 by decide), upf_ne _ _ (show ¬ (9 : Nat) = 6 by decide), orv_n, nl_u, ko, ib02, ib12, i12, i21, i20, i02, i01]
        · have jf : judgeF sa q (f 3) a = upf (upf a 6 (upd (a 6) s 3)) 7 (upd (a 7) k (a 7 k + 1)) := by
            unfold judgeF
            dsimp only
            rw [if_pos hth, zs, zk, if_neg hc, if_neg hh]
          rcases bk with ⟨b1, b2, b3⟩ | ⟨b, b1, ⟨b2, b3⟩, ⟨b4, b5⟩, b6, b7, b8, b9⟩
          · skip
            have ko := ls_k (L1.ws3 hap hs (x := -2)) hs
            have L2 := Lo 3
            have L3 := L2.wl hap k20 (j := 0) (x := a 7 k + 1) (by omega)
            have L4 := L3
            have x4 := (x1.tr (xo 3)).tr (Sx.of (Sm.wA (f := (upd (hA (wF (wF (wF g l 3 (.int (f 4 - 1))) (D 2 s) 3 (.int (-2))) (D 2 s) 2 (.int 3)) (D 3 k)) 0 (a 7 k + 1))) (Aw_t (nz := nz) (ns := ns) (l := l) k20)) rfl rfl)
            refine ⟨_, _, x4, h.nw x4 (by rw [jf]; exact L4) ?_ (ph _ (by rw [jf]; rfl)), fun d K => ?_⟩
            · rw [jf]
              exact INV_jd hI hs h6 (Or.inl rfl) rfl rfl f4 (fun x g1 g2 => by dsimp only; rw [upf_ne _ _ (by omega), upf_ne _ _ g1]) rfl i9
            · simp only [in90, i90_0, i90_1, i90_2, i90_5, i90_8, i90_9, i90_10, i90_11, i90_14, i90_15, i90_16, i90_19, i90_20, i90_23, i90_26, i90_27, i90_28, i90_31, i90_32, i90_33, i90_36, i90_37, i90_38, i90_39, i90_42, i90_43, i90_46, i90_47, i90_48, i90_49, i90_52, i90_53, i90_56, i90_57, i90_58, i90_59_N, i90_59_R, i90_62, i90_63, i90_66, i90_67, i90_70, i90_71, i90_72, i90_73, i90_76, i90_77, i90_80, i90_81, i90_84, i90_85, i90_86, i90_87, i90_90, i90_91, i90_94, i90_95, i90_97, i90_98, i90_99, i90_101, i90_104, i90_105, i90_108, i90_109, i90_112, i90_113, i90_115, i90_116, i90_117, i90_118, i90_119, i90_120, i90_122, i90_123, i90_126, i90_127, i90_128, i90_130, i90_131, i90_132, i90_133, i90_134, i90_137, i90_138, i90_141, i90_142, i90_144, i90_145, i90_148, i90_149, i90_150, i90_152, i90_153, i90_154, i90_155, i90_156, i90_159, i90_160, i90_163, i90_164, in89, i89_0, i89_1, i89_3, i89_6, i89_7, i89_8, i89_11, nl_i, nl_r, nl_0, nl_j, nb0, nb1, nbI, orv_s, konN_v, konN_n, konN_e, true_and, and_true, and_self, if_true, if_false, ite_true, ite_false, isR_ref, true_or, or_true, isR_null, rg10, rg11, rg12, rg13, rg14, rg15, rg16, rh13, rh14, rh15, rh16, bI_T, bI_F, bI_Fb, i1z, Bool.false_eq_true, lc_k hL, lc_f0 hL, lc_f1 hL, lc_f2 hL, lc_f4 hL, lc_f5 hL, lc_f6 hL, lc_f7 hL, lc_f8 hL, lc_f9 hL, lc_k0 hL, lc_l0 hL, lc_k1 hL, lc_l1 hL, lc_k2 hL, lc_l2 hL, lc_k3 hL, lc_l3 hL, lc_k4 hL, lc_l4 hL, lc_k L1, lc_f0 L1, lc_f1 L1, lc_f2 L1, lc_f4 L1, lc_f5 L1, lc_f6 L1, lc_f7 L1, lc_f8 L1, lc_f9 L1, lc_k0 L1, lc_l0 L1, lc_k1 L1, lc_l1 L1, lc_k2 L1, lc_l2 L1, lc_k3 L1, lc_l3 L1, lc_k4 L1, lc_l4 L1, lc_k L2, lc_f0 L2, lc_f1 L2, lc_f2 L2, lc_f4 L2, lc_f5 L2, lc_f6 L2, lc_f7 L2, lc_f8 L2, lc_f9 L2, lc_k0 L2, lc_l0 L2, lc_k1 L2, lc_l1 L2, lc_k2 L2, lc_l2 L2, lc_k3 L2, lc_l3 L2, lc_k4 L2, lc_l4 L2, lc_k L3, lc_f0 L3, lc_f1 L3, lc_f2 L3, lc_f4 L3, lc_f5 L3, lc_f6 L3, lc_f7 L3, lc_f8 L3, lc_f9 L3, lc_k0 L3, lc_l0 L3, lc_k1 L3, lc_l1 L3, lc_k2 L3, lc_l2 L3, lc_k3 L3, lc_l3 L3, lc_k4 L3, lc_l4 L3, ls_R L1 hs, ls_k L1 hs, ls_0 L1 hs, ls_1 L1 hs, ls_2 L1 hs, ls_3 L1 hs, ls_R L2 hs, ls_k L2 hs, ls_0 L2 hs, ls_1 L2 hs, ls_2 L2 hs, ls_3 L2 hs, lw_R L1 k20, lw_k L1 k20, lw_l L1 k20, lw_0 L1 k20, lw_1 L1 k20, lw_2 L1 k20, lw_3 L1 k20, lw_R L2 k20, lw_k L2 k20, lw_l L2 k20, lw_0 L2 k20, lw_1 L2 k20, lw_2 L2 k20, lw_3 L2 k20, lw_R L3 k20, lw_k L3 k20, lw_l L3 k20, lw_0 L3 k20, lw_1 L3 k20, lw_2 L3 k20, lw_3 L3 k20, ib04, ib14, ib24, ib34, ib05, ib15, ib25, ib35, ib45, zn_0, zn_1, zn_2, zn_3, zn_4, s_atq hL hI hP, at1, h0, s0, y1, wF_eq, ng, is, cs, hk, ik, ck, b1, i1z, upf_ne _ _ (show ¬ (10 : Nat) = 7 + 0 by decide), upf_ne _ _ (show ¬ (10 : Nat) = 6 by decide), upf_ne _ _ (show ¬ (7 : Nat) = 6 by decide), orv_n, nl_u, ko, ib02, ib12, i12, i21, i20, i02, i01]
          · have n6' : ¬ sa 6 k = -1 := fun y => by rw [y] at b8; exact absurd b8 (by decide)
            have n7 : ¬ sa 7 k = -1 := fun y => by rw [y] at b9; exact absurd b9 (by decide)
            have c1 : (sa 6 k ≤ a 5 s) = True := eq_true (Int32.not_lt.mp (fun y => hc ⟨n6', y⟩))
            have c2 : (a 5 s ≤ sa 7 k) = True := eq_true (Int32.not_lt.mp (fun y => hh ⟨n7, y⟩))
            have ko := ls_k (L1.ws3 hap hs (x := -2)) hs
            have L2 := Lo 3
            have L3 := L2.wl hap k20 (j := 0) (x := a 7 k + 1) (by omega)
            have L4 := L3
            have x4 := (x1.tr (xo 3)).tr (Sx.of (Sm.wA (f := (upd (hA (wF (wF (wF g l 3 (.int (f 4 - 1))) (D 2 s) 3 (.int (-2))) (D 2 s) 2 (.int 3)) (D 3 k)) 0 (a 7 k + 1))) (Aw_t (nz := nz) (ns := ns) (l := l) k20)) rfl rfl)
            refine ⟨_, _, x4, h.nw x4 (by rw [jf]; exact L4) ?_ (ph _ (by rw [jf]; rfl)), fun d K => ?_⟩
            · rw [jf]
              exact INV_jd hI hs h6 (Or.inl rfl) rfl rfl f4 (fun x g1 g2 => by dsimp only; rw [upf_ne _ _ (by omega), upf_ne _ _ g1]) rfl i9
            · simp only [in90, i90_0, i90_1, i90_2, i90_5, i90_8, i90_9, i90_10, i90_11, i90_14, i90_15, i90_16, i90_19, i90_20, i90_23, i90_26, i90_27, i90_28, i90_31, i90_32, i90_33, i90_36, i90_37, i90_38, i90_39, i90_42, i90_43, i90_46, i90_47, i90_48, i90_49, i90_52, i90_53, i90_56, i90_57, i90_58, i90_59_N, i90_59_R, i90_62, i90_63, i90_66, i90_67, i90_70, i90_71, i90_72, i90_73, i90_76, i90_77, i90_80, i90_81, i90_84, i90_85, i90_86, i90_87, i90_90, i90_91, i90_94, i90_95, i90_97, i90_98, i90_99, i90_101, i90_104, i90_105, i90_108, i90_109, i90_112, i90_113, i90_115, i90_116, i90_117, i90_118, i90_119, i90_120, i90_122, i90_123, i90_126, i90_127, i90_128, i90_130, i90_131, i90_132, i90_133, i90_134, i90_137, i90_138, i90_141, i90_142, i90_144, i90_145, i90_148, i90_149, i90_150, i90_152, i90_153, i90_154, i90_155, i90_156, i90_159, i90_160, i90_163, i90_164, in89, i89_0, i89_1, i89_3, i89_6, i89_7, i89_8, i89_11, nl_i, nl_r, nl_0, nl_j, nb0, nb1, nbI, orv_s, konN_v, konN_n, konN_e, true_and, and_true, and_self, if_true, if_false, ite_true, ite_false, isR_ref, true_or, or_true, isR_null, rg10, rg11, rg12, rg13, rg14, rg15, rg16, rh13, rh14, rh15, rh16, bI_T, bI_F, bI_Fb, i1z, Bool.false_eq_true, lc_k hL, lc_f0 hL, lc_f1 hL, lc_f2 hL, lc_f4 hL, lc_f5 hL, lc_f6 hL, lc_f7 hL, lc_f8 hL, lc_f9 hL, lc_k0 hL, lc_l0 hL, lc_k1 hL, lc_l1 hL, lc_k2 hL, lc_l2 hL, lc_k3 hL, lc_l3 hL, lc_k4 hL, lc_l4 hL, lc_k L1, lc_f0 L1, lc_f1 L1, lc_f2 L1, lc_f4 L1, lc_f5 L1, lc_f6 L1, lc_f7 L1, lc_f8 L1, lc_f9 L1, lc_k0 L1, lc_l0 L1, lc_k1 L1, lc_l1 L1, lc_k2 L1, lc_l2 L1, lc_k3 L1, lc_l3 L1, lc_k4 L1, lc_l4 L1, lc_k L2, lc_f0 L2, lc_f1 L2, lc_f2 L2, lc_f4 L2, lc_f5 L2, lc_f6 L2, lc_f7 L2, lc_f8 L2, lc_f9 L2, lc_k0 L2, lc_l0 L2, lc_k1 L2, lc_l1 L2, lc_k2 L2, lc_l2 L2, lc_k3 L2, lc_l3 L2, lc_k4 L2, lc_l4 L2, lc_k L3, lc_f0 L3, lc_f1 L3, lc_f2 L3, lc_f4 L3, lc_f5 L3, lc_f6 L3, lc_f7 L3, lc_f8 L3, lc_f9 L3, lc_k0 L3, lc_l0 L3, lc_k1 L3, lc_l1 L3, lc_k2 L3, lc_l2 L3, lc_k3 L3, lc_l3 L3, lc_k4 L3, lc_l4 L3, ls_R L1 hs, ls_k L1 hs, ls_0 L1 hs, ls_1 L1 hs, ls_2 L1 hs, ls_3 L1 hs, ls_R L2 hs, ls_k L2 hs, ls_0 L2 hs, ls_1 L2 hs, ls_2 L2 hs, ls_3 L2 hs, lw_R L1 k20, lw_k L1 k20, lw_l L1 k20, lw_0 L1 k20, lw_1 L1 k20, lw_2 L1 k20, lw_3 L1 k20, lw_R L2 k20, lw_k L2 k20, lw_l L2 k20, lw_0 L2 k20, lw_1 L2 k20, lw_2 L2 k20, lw_3 L2 k20, lw_R L3 k20, lw_k L3 k20, lw_l L3 k20, lw_0 L3 k20, lw_1 L3 k20, lw_2 L3 k20, lw_3 L3 k20, ib04, ib14, ib24, ib34, ib05, ib15, ib25, ib35, ib45, zn_0, zn_1, zn_2, zn_3, zn_4, s_atq hL hI hP, at1, h0, s0, y1, wF_eq, ng, is, cs, hk, ik, ck, b1, b4, b5, b6, b7, c1, c2, i1z, upf_ne _ _ (show ¬ (10 : Nat) = 7 + 0 by decide), upf_ne _ _ (show ¬ (10 : Nat) = 6 by decide), upf_ne _ _ (show ¬ (7 : Nat) = 6 by decide), orv_n, nl_u, ko, ib02, ib12, i12, i21, i20, i02, i01]
    · have hf : quL sa q (f, a) = (upf f 4 (f 4 - 1), a) := qu_stay hv (fun y => hl (dc1.mp y))
      have L1 := hL.wn (f' := upf f 4 (f 4 - 1)) hap (k := 3) (x := f 4 - 1) (Or.inr rfl) rfl (fun y hy => Or.inr (by rw [if_pos rfl] at hy; exact hy))
      have x1 : Sx (Aw l D nz ns) 0 g (wF g l 3 (.int (f 4 - 1))) := Sx.of (Sm.wF Aw_l) rfl rfl
      have ng : (f 4 - 1 ≤ 0) = False := eq_false (fun y => hl (dc1.mp y))
      rw [hf]
      refine ⟨_, p, x1, h.nw x1 L1 ⟨hI.1, Or.inr ⟨s, hs, h0, dc2 hl, h6⟩, hI.2.2⟩ (hP.cg rfl rfl), fun d K => ?_⟩
      simp only [in90, i90_0, i90_1, i90_2, i90_5, i90_8, i90_9, i90_10, i90_11, i90_14, i90_15, i90_16, i90_19, i90_20, i90_23, i90_26, i90_27, i90_28, i90_31, i90_32, i90_33, i90_36, i90_37, i90_38, i90_39, i90_42, i90_43, i90_46, i90_47, i90_48, i90_49, i90_52, i90_53, i90_56, i90_57, i90_58, i90_59_N, i90_59_R, i90_62, i90_63, i90_66, i90_67, i90_70, i90_71, i90_72, i90_73, i90_76, i90_77, i90_80, i90_81, i90_84, i90_85, i90_86, i90_87, i90_90, i90_91, i90_94, i90_95, i90_97, i90_98, i90_99, i90_101, i90_104, i90_105, i90_108, i90_109, i90_112, i90_113, i90_115, i90_116, i90_117, i90_118, i90_119, i90_120, i90_122, i90_123, i90_126, i90_127, i90_128, i90_130, i90_131, i90_132, i90_133, i90_134, i90_137, i90_138, i90_141, i90_142, i90_144, i90_145, i90_148, i90_149, i90_150, i90_152, i90_153, i90_154, i90_155, i90_156, i90_159, i90_160, i90_163, i90_164, nl_i, nl_r, nl_0, nl_j, nb0, nb1, nbI, orv_s, konN_v, konN_n, konN_e, true_and, and_true, and_self, if_true, if_false, ite_true, ite_false, isR_ref, true_or, or_true, isR_null, rg10, rg11, rg12, rg13, rg14, rg15, rg16, rh13, rh14, rh15, rh16, bI_T, bI_F, bI_Fb, i1z, Bool.false_eq_true, lc_k hL, lc_f0 hL, lc_f1 hL, lc_f2 hL, lc_f4 hL, lc_f5 hL, lc_f6 hL, lc_f7 hL, lc_f8 hL, lc_f9 hL, lc_k0 hL, lc_l0 hL, lc_k1 hL, lc_l1 hL, lc_k2 hL, lc_l2 hL, lc_k3 hL, lc_l3 hL, lc_k4 hL, lc_l4 hL, lc_k L1, lc_f0 L1, lc_f1 L1, lc_f2 L1, lc_f4 L1, lc_f5 L1, lc_f6 L1, lc_f7 L1, lc_f8 L1, lc_f9 L1, lc_k0 L1, lc_l0 L1, lc_k1 L1, lc_l1 L1, lc_k2 L1, lc_l2 L1, lc_k3 L1, lc_l3 L1, lc_k4 L1, lc_l4 L1, s_atq hL hI hP, h0, s0, y1, wF_eq, ng]
end CO
