/-! THE LINE: the quench -/
theorem mlim {x : Int32} : (if (if 50 < x then (50 : Int32) else x) < -50 then (-50 : Int32) else (if 50 < x then 50 else x)) = lim x (-50) 50 := by
  unfold lim
  by_cases h1 : 50 < x
  · rw [if_pos h1, if_neg (by decide), if_pos, if_neg (Int32.not_le.mpr h1)]
    rw [i32_lt] at h1
    rw [i32_le]
    have t : (50 : Int) < x.toInt := h1
    show (-50 : Int) ≤ x.toInt
    omega
  · rw [if_neg h1]
    by_cases h2 : x < -50
    · rw [if_pos h2, if_neg (Int32.not_le.mpr h2)]
    · rw [if_neg h2, if_pos (Int32.not_lt.mp h2), if_pos (Int32.not_lt.mp h1)]
theorem lim_id {x lo hi : Int32} (h : lo ≤ x ∧ x ≤ hi) : lim x lo hi = x := by
  unfold lim
  rw [if_pos h.1, if_pos h.2]
theorem dec1 {x : Int32} (h : 1 ≤ x) : (x - 1 ≤ 0) = (x - 1 = 0) ∧ (¬ x - 1 = 0 → 1 ≤ x - 1) := by
  rw [i32_le] at h
  have t : (1 : Int) ≤ x.toInt := h
  have e : (x - 1).toInt = x.toInt - 1 := i32_sub (y := 1) (by show _ ≤ x.toInt - 1; omega) (by show x.toInt - 1 < _; have := x.toInt_lt; omega)
  refine ⟨propext ⟨fun z => ?_, fun z => by rw [z]; decide⟩, fun z => ?_⟩
  · rw [i32_le, e] at z
    have z : x.toInt - 1 ≤ 0 := z
    refine Int32.toInt_inj.mp ?_
    rw [e]
    show x.toInt - 1 = 0
    omega
  · rw [i32_le, e]
    show (1 : Int) ≤ x.toInt - 1
    have : ¬ x.toInt - 1 = 0 := fun y => z (Int32.toInt_inj.mp (by rw [e]; exact y))
    omega
theorem upf_self {a : Nat → Nat → Int32} {i k : Nat} : upf a i (upd (a i) k (a i k)) = a := by
  funext j l
  unfold upf upd
  by_cases e : j = i
  · subst e
    rw [if_pos rfl]
    by_cases e2 : l = k
    · subst e2; exact if_pos rfl
    · exact if_neg e2
  · rw [if_neg e]
/-- a sheet that was in the quench gets another state; the holders stay -/
theorem H3_st {nz ns s : Nat} {g st : Nat → Int32} {v w : Int32} (h : H3 nz ns g st) (hw : st s = w) (hw1 : ¬ w = 1) : H3 nz ns g (upd st s v) := by
  refine ⟨fun z hz => ?_, h.2⟩
  rcases h.1 z hz with e | ⟨x, hx, e1, e2⟩
  · exact Or.inl e
  · refine Or.inr ⟨x, hx, e1, ?_⟩
    rw [upd_nz (fun y => by rw [y, hw] at e2; exact hw1 e2)]
    exact e2
section QU
variable {nz ns n : Nat} {q pg f D : Nat → Int32} {a sa : Nat → Nat → Int32} {c : HP} {J : Nat → Nat → Int64}
theorem quench_step (hI : INV nz ns f a) (hE : EQL nz ns f a D) (hS : STA nz q sa n pg D) :
    ∃ D', (∀ d K l1 l2, Ev (d + 3) 128 107 [some (.ref 140), l1, l2] [] (dH c J D) K = Ev (d + 3) 128 141 [some (.ref 140), l1, l2] [] (dH c J D') K) ∧ INV nz ns (quL sa q (f, a)).1 (quL sa q (f, a)).2 ∧ EQL nz ns (quL sa q (f, a)).1 (quL sa q (f, a)).2 D' ∧ STA nz q sa n pg D' := by
  have hI0 := hI
  have hE0 := hE
  have hS0 := hS
  obtain ⟨⟨i1, i2, i3⟩, i4, i5, i7, i8, i9⟩ := hI0
  obtain ⟨⟨e1, e2, e3, e4⟩, e5, e6, e7⟩ := hE0
  obtain ⟨⟨s1, s2, s3⟩, ⟨s4, s4b, s4c⟩, s5, s6, s7⟩ := hS0
  rcases i4 with ⟨h0, h4⟩ | ⟨s, hs, h0, h4, h6⟩
  · have hf : quL sa q (f, a) = (f, a) := qu_no (fun y => by rw [h0] at y; exact absurd y.1 (by decide))
    have d5 : (D 5 ≤ 0) = True := eq_true (by rw [e3, h0]; decide)
    rw [hf]
    refine ⟨D, fun d K l1 l2 => ?_, hI, hE, hS⟩
    simp only [i128_107, i128_108, i128_111, i128_112, i128_113, nl_i, nl_r, nl_0, nl_j, nb0, nb1, nbI, orv_s, konN_v, konN_n, konN_e, true_and, and_true, and_self, if_true, if_false, ite_true, ite_false, isR_ref, true_or, or_true, bI_T, bI_F, bI_Fb, i1z, Bool.false_eq_true, d_k, d_f8, d_k2, d_l2, d_a2, d_wa2, s_zoneAt, s_sheetAt, s_kindAt, nI_1, nI_p2, nI_p3, nI_p4, nI_p5, nI_p6, ib_0, ib_1, ib_2, ib_3, ib_4, ib_5, ib_6, ib_7, ib_8, iz_0, iz_1, iz_2, iz_3, iz_4, iz_5, iz_6, iz_7, iz_8, ze_0, ze_1, ze_2, ze_3, ze_4, ze_5, ze_6, ze_7, ze_8, d5]
  · have hs20 : s < 20 := by omega
    have ht := e6 s hs
    obtain ⟨v1, v2, v3⟩ := i8 s hs
    obtain ⟨k, k20, k2, hk⟩ := th_nI v1.1 v1.2
    have zs : zn (f 3) = s := by rw [h0]; exact zn_nI (by omega)
    have hv : 0 ≤ f 3 ∧ f 3 < f 2 := by
      rw [h0, i1]
      exact ⟨nI_pos' (by omega), (nI_ltI (by omega) (by omega)).mpr hs⟩
    have d5 : (nI (s + 1) ≤ 0) = False := eq_false (nI_nle (by omega) (by omega))
    have d6 : D 6 = f 4 := by
      rcases e4 with e4 | e4
      · rw [h0] at e4
        exact absurd e4 (fun y => nI_pos (n := s) (by omega) (by rw [y]; decide))
      · exact e4
    obtain ⟨dc1, dc2⟩ := dec1 h4
    by_cases hl : f 4 - 1 = 0
    · -- the sheet leaves
      have hf : quL sa q (f, a) = (upf (upf f 4 (f 4 - 1)) 3 (-1), judgeF sa q (f 3) a) := qu_out hv (dc1.mpr hl)
      have hI1 : ∀ a', (∀ x, ¬ x = 6 → ¬ 7 ≤ x → a' x = a x) → (∃ v, (v = 3 ∨ v = 4) ∧ a' 6 = upd (a 6) s v) → (∀ k, k < 20 → -50 ≤ a' 10 k ∧ a' 10 k ≤ 50) → INV nz ns (upf (upf f 4 (f 4 - 1)) 3 (-1)) a' := fun a' h1 ⟨v, hv, h2⟩ h3 => by
        refine ⟨⟨i1, i2, i3⟩, Or.inl ⟨rfl, hl⟩, ?_, ?_, ?_, h3⟩
        · rw [h1 3 (by omega) (by omega), h2]
          exact H3_st i5 h6 (by decide)
        · rw [h1 1 (by omega) (by omega), h1 2 (by omega) (by omega)]
          exact i7
        · rw [h1 4 (by omega) (by omega), h1 5 (by omega) (by omega), h2]
          intro y hy
          refine ⟨(i8 y hy).1, (i8 y hy).2.1, ?_⟩
          by_cases e : y = s
          · subst e
            rw [upd_eq]
            rcases hv with rfl | rfl <;> decide
          · rw [upd_nz e]
            exact (i8 y hy).2.2
      have hth : 2 ≤ a 4 (zn (f 3)) ∧ a 4 (zn (f 3)) ≤ 19 := by rw [zs]; exact v1
      have zk : zn (a 4 s) = k := by rw [hk]; exact zn_nI (by omega)
      have bk := s6 k k20
      have ek := e7 k k20
      have x1 : EQL nz ns (upf (upf f 4 (f 4 - 1)) 3 (-1)) a (upd (upd D 6 (f 4 - 1)) 5 0) := EQ_5w s2 i2 (by decide) (Or.inl rfl) (EQ_6w s2 i2 hE)
      have x2 : STA nz q sa n pg (upd (upd D 6 (f 4 - 1)) 5 0) := STA_upd (by omega) (STA_upd (by omega) hS)
      have kk : ∀ F : Nat → Int32, ∀ o, o ≤ 3 → ∀ w, STA nz q sa n pg F → STA nz q sa n pg (upd F (111 + 7 * k + o) w) := fun F o ho w h => STA_upd (Or.inr (Or.inr (Or.inr (Or.inr (Or.inr (Or.inr ⟨k, k20, by omega⟩)))))) h
      have kst : ∀ F : Nat → Int32, ∀ w, STA nz q sa n pg F → STA nz q sa n pg (upd F (51 + 3 * s + 2) w) := fun F w h => STA_upd (Or.inr (Or.inr (Or.inr (Or.inr (Or.inr (Or.inl (by omega))))))) h
      have sim0 : nI (s + 1) - 1 = nI s := nI_pred s
      have lmr := fun x => lim_bd (x := x) (lo := -50) (hi := 50) (by decide)
      rw [hf]
      by_cases hc : ¬ sa 6 k = -1 ∧ a 5 s < sa 6 k
      · have jf : judgeF sa q (f 3) a = upf (upf (upf a 6 (upd (a 6) s 4)) 8 (upd (a 8) k (a 8 k + 1))) 10 (upd (a 10) k (lim (a 10 k + q 2) (-50) 50)) := by
          unfold judgeF learnF
          dsimp only
          rw [if_pos hth, zs, zk, if_pos hc]
          rfl
        rcases bk with ⟨b1, b2, b3⟩ | ⟨b1, b2, b3, b4, b5⟩
        · exact absurd b2 hc.1
        · refine ⟨upd (upd (upd (upd (upd D 6 (f 4 - 1)) 5 0) (51 + 3 * s + 2) 4) (111 + 7 * k + 1) (a 8 k + 1)) (111 + 7 * k + 3) (lim (a 10 k + q 2) (-50) 50), fun d K l1 l2 => ?_, ?_, ?_, ?_⟩
          · have c1 : (D (111 + 7 * k + 4) ≤ a 5 s) = False := eq_false (by rw [← b2]; exact Int32.not_le.mpr hc.2)
            simp only [i128_107, i128_108, i128_111, i128_112, i128_113, i128_116, i128_117, i128_120, i128_122, i128_123, i128_124, i128_125, i128_126, i128_127, i128_128, i128_131, i128_133, i128_134, i128_137, i128_138, in126, i126_0, i126_1, i126_4, i126_5, i126_6, i126_7, i126_8, i126_9, i126_10, i126_11, i126_14, i126_17, i126_18, i126_19, i126_22, i126_23, i126_24, i126_25, i126_26, i126_29, i126_30, i126_32, i126_33, i126_34, i126_35, i126_38, i126_39, i126_40, i126_43, i126_44, i126_47, i126_48, i126_49, i126_50, i126_51, i126_54, i126_55, i126_58, i126_59, i126_60, i126_61, i126_64, i126_65, i126_67, i126_68, i126_69, i126_70, i126_73, i126_74, i126_75, i126_78, i126_79, i126_82, i126_83, i126_84, i126_85, i126_86, i126_89, i126_90, i126_93, i126_94, i126_96, i126_97, i126_98, i126_99, i126_102, i126_104, i126_107, i126_108, i126_111, i126_112, i126_115, i126_116, i126_119, i126_120, i126_121, i126_124, i126_125, i126_128, i126_130, i126_133, i126_134, i126_137, i126_138, i126_139, i126_140, i126_141, i126_142, i126_143, i126_144, i126_145, i126_148, i126_149, i126_152, i126_153, i126_154, i126_157, i126_159, i126_162, i126_163, i126_166, i126_167, i126_168, i126_169, i126_172, i126_173, i126_175, i126_176, i126_179, i126_180, i126_181, i126_182, i126_184, i126_186, i126_187, i126_190, i126_191, i126_192, i126_193, i126_194, i126_196, i126_197, i126_200, i126_203, i126_204, nl_i, nl_r, nl_0, nl_j, nb0, nb1, nbI, orv_s, konN_v, konN_n, konN_e, true_and, and_true, and_self, if_true, if_false, ite_true, ite_false, isR_ref, true_or, or_true, bI_T, bI_F, bI_Fb, i1z, Bool.false_eq_true, d_k, d_f8, d_k2, d_l2, d_a2, d_wa2, s_zoneAt, s_sheetAt, s_kindAt, nI_1, nI_p2, nI_p3, nI_p4, nI_p5, nI_p6, ib_0, ib_1, ib_2, ib_3, ib_4, ib_5, ib_6, ib_7, ib_8, iz_0, iz_1, iz_2, iz_3, iz_4, iz_5, iz_6, iz_7, iz_8, ze_0, ze_1, ze_2, ze_3, ze_4, ze_5, ze_6, ze_7, ze_8, d5, d6, hl, e3, h0, nI_1, sim0, s_mThick hs20, s_warmth hs20, s_become hs20, hk, upd_eq, upd_nz (show ¬ (5 : Nat) = 6 by omega), upd_nz (show ¬ (51 + 3 * s : Nat) = 6 by omega), upd_nz (show ¬ (51 + 3 * s : Nat) = 5 by omega), upd_nz (show ¬ (51 + 3 * s : Nat) = 51 + 3 * s + 2 by omega), upd_nz (show ¬ (51 + 3 * s + 1 : Nat) = 6 by omega), upd_nz (show ¬ (51 + 3 * s + 1 : Nat) = 5 by omega), upd_nz (show ¬ (51 + 3 * s + 1 : Nat) = 51 + 3 * s + 2 by omega), upd_nz (show ¬ (111 + 7 * k : Nat) = 6 by omega), upd_nz (show ¬ (111 + 7 * k : Nat) = 5 by omega), upd_nz (show ¬ (111 + 7 * k : Nat) = 51 + 3 * s + 2 by omega), upd_nz (show ¬ (111 + 7 * k + 1 : Nat) = 6 by omega), upd_nz (show ¬ (111 + 7 * k + 1 : Nat) = 5 by omega), upd_nz (show ¬ (111 + 7 * k + 1 : Nat) = 51 + 3 * s + 2 by omega), upd_nz (show ¬ (111 + 7 * k + 2 : Nat) = 6 by omega), upd_nz (show ¬ (111 + 7 * k + 2 : Nat) = 5 by omega), upd_nz (show ¬ (111 + 7 * k + 2 : Nat) = 51 + 3 * s + 2 by omega), upd_nz (show ¬ (111 + 7 * k + 3 : Nat) = 6 by omega), upd_nz (show ¬ (111 + 7 * k + 3 : Nat) = 5 by omega), upd_nz (show ¬ (111 + 7 * k + 3 : Nat) = 51 + 3 * s + 2 by omega), upd_nz (show ¬ (111 + 7 * k + 4 : Nat) = 6 by omega), upd_nz (show ¬ (111 + 7 * k + 4 : Nat) = 5 by omega), upd_nz (show ¬ (111 + 7 * k + 4 : Nat) = 51 + 3 * s + 2 by omega), upd_nz (show ¬ (111 + 7 * k + 5 : Nat) = 6 by omega), upd_nz (show ¬ (111 + 7 * k + 5 : Nat) = 5 by omega), upd_nz (show ¬ (111 + 7 * k + 5 : Nat) = 51 + 3 * s + 2 by omega), upd_nz (show ¬ (111 + 7 * k + 6 : Nat) = 6 by omega), upd_nz (show ¬ (111 + 7 * k + 6 : Nat) = 5 by omega), upd_nz (show ¬ (111 + 7 * k + 6 : Nat) = 51 + 3 * s + 2 by omega), upd_nz (show ¬ (4 : Nat) = 6 by omega), upd_nz (show ¬ (4 : Nat) = 5 by omega), upd_nz (show ¬ (4 : Nat) = 51 + 3 * s + 2 by omega), upd_nz (show ¬ (4 : Nat) = 111 + 7 * k + 1 by omega), upd_nz (show ¬ (111 + 7 * k + 3 : Nat) = 111 + 7 * k + 1 by omega), inbT (show 111 + 7 * k < 1451 by omega) (show 1451 < 2 ^ 31 by omega), zn_nI (show 111 + 7 * k < 2 ^ 31 by omega), inbT (show 111 + 7 * k + 1 < 1451 by omega) (show 1451 < 2 ^ 31 by omega), zn_nI (show 111 + 7 * k + 1 < 2 ^ 31 by omega), inbT (show 111 + 7 * k + 2 < 1451 by omega) (show 1451 < 2 ^ 31 by omega), zn_nI (show 111 + 7 * k + 2 < 2 ^ 31 by omega), inbT (show 111 + 7 * k + 3 < 1451 by omega) (show 1451 < 2 ^ 31 by omega), zn_nI (show 111 + 7 * k + 3 < 2 ^ 31 by omega), inbT (show 111 + 7 * k + 4 < 1451 by omega) (show 1451 < 2 ^ 31 by omega), zn_nI (show 111 + 7 * k + 4 < 2 ^ 31 by omega), inbT (show 111 + 7 * k + 5 < 1451 by omega) (show 1451 < 2 ^ 31 by omega), zn_nI (show 111 + 7 * k + 5 < 2 ^ 31 by omega), inbT (show 111 + 7 * k + 6 < 1451 by omega) (show 1451 < 2 ^ 31 by omega), zn_nI (show 111 + 7 * k + 6 < 2 ^ 31 by omega), ht.1, ht.2.1, b1, c1, ek.2.1, ek.2.2.2, s4b, s_min, s_max, mlim]
            by_cases c2 : a 5 s ≤ D (111 + 7 * k + 5)
            · simp only [c2, if_true, i126_93, i126_94, i126_96, i126_97, i126_98, i126_99, i126_102, i126_104, i126_107, i126_108, i126_111, i126_112, i126_115, i126_116, i126_119, i126_120, i126_121, i126_124, i126_125, i126_128, i126_130, i126_133, i126_134, i126_137, i126_138, i126_139, i126_140, i126_141, i126_142, i126_143, i126_144, i126_145, i126_148, i126_149, i126_152, i126_153, i126_154, i126_157, i126_159, i126_162, i126_163, i126_166, i126_167, i126_168, i126_169, i126_172, i126_173, i126_175, i126_176, i126_179, i126_180, i126_181, i126_182, i126_184, i126_186, i126_187, i126_190, i126_191, i126_192, i126_193, i126_194, i126_196, i126_197, i126_200, i126_203, i126_204, nl_i, nl_r, nl_0, nl_j, nb0, nb1, nbI, orv_s, konN_v, konN_n, konN_e, true_and, and_true, and_self, if_true, if_false, ite_true, ite_false, isR_ref, true_or, or_true, bI_T, bI_F, bI_Fb, i1z, Bool.false_eq_true, d_k, d_f8, d_k2, d_l2, d_a2, d_wa2, s_zoneAt, s_sheetAt, s_kindAt, nI_1, nI_p2, nI_p3, nI_p4, nI_p5, nI_p6, ib_0, ib_1, ib_2, ib_3, ib_4, ib_5, ib_6, ib_7, ib_8, iz_0, iz_1, iz_2, iz_3, iz_4, iz_5, iz_6, iz_7, iz_8, ze_0, ze_1, ze_2, ze_3, ze_4, ze_5, ze_6, ze_7, ze_8, d6, hl, s_mThick hs20, s_warmth hs20, s_become hs20, upd_eq, upd_nz (show ¬ (111 + 7 * k : Nat) = 6 by omega), upd_nz (show ¬ (111 + 7 * k : Nat) = 5 by omega), upd_nz (show ¬ (111 + 7 * k : Nat) = 51 + 3 * s + 2 by omega), upd_nz (show ¬ (111 + 7 * k + 1 : Nat) = 6 by omega), upd_nz (show ¬ (111 + 7 * k + 1 : Nat) = 5 by omega), upd_nz (show ¬ (111 + 7 * k + 1 : Nat) = 51 + 3 * s + 2 by omega), upd_nz (show ¬ (111 + 7 * k + 2 : Nat) = 6 by omega), upd_nz (show ¬ (111 + 7 * k + 2 : Nat) = 5 by omega), upd_nz (show ¬ (111 + 7 * k + 2 : Nat) = 51 + 3 * s + 2 by omega), upd_nz (show ¬ (111 + 7 * k + 3 : Nat) = 6 by omega), upd_nz (show ¬ (111 + 7 * k + 3 : Nat) = 5 by omega), upd_nz (show ¬ (111 + 7 * k + 3 : Nat) = 51 + 3 * s + 2 by omega), upd_nz (show ¬ (4 : Nat) = 6 by omega), upd_nz (show ¬ (4 : Nat) = 5 by omega), upd_nz (show ¬ (4 : Nat) = 51 + 3 * s + 2 by omega), upd_nz (show ¬ (4 : Nat) = 111 + 7 * k + 1 by omega), upd_nz (show ¬ (111 + 7 * k + 3 : Nat) = 111 + 7 * k + 1 by omega), inbT (show 111 + 7 * k < 1451 by omega) (show 1451 < 2 ^ 31 by omega), zn_nI (show 111 + 7 * k < 2 ^ 31 by omega), inbT (show 111 + 7 * k + 1 < 1451 by omega) (show 1451 < 2 ^ 31 by omega), zn_nI (show 111 + 7 * k + 1 < 2 ^ 31 by omega), inbT (show 111 + 7 * k + 2 < 1451 by omega) (show 1451 < 2 ^ 31 by omega), zn_nI (show 111 + 7 * k + 2 < 2 ^ 31 by omega), inbT (show 111 + 7 * k + 3 < 1451 by omega) (show 1451 < 2 ^ 31 by omega), zn_nI (show 111 + 7 * k + 3 < 2 ^ 31 by omega), ek.2.1, ek.2.2.2, s4b, s_min, s_max, mlim]
            · simp only [c2, if_false, i126_89, i126_90, i126_93, i126_94, i126_96, i126_97, i126_98, i126_99, i126_102, i126_104, i126_107, i126_108, i126_111, i126_112, i126_115, i126_116, i126_119, i126_120, i126_121, i126_124, i126_125, i126_128, i126_130, i126_133, i126_134, i126_137, i126_138, i126_139, i126_140, i126_141, i126_142, i126_143, i126_144, i126_145, i126_148, i126_149, i126_152, i126_153, i126_154, i126_157, i126_159, i126_162, i126_163, i126_166, i126_167, i126_168, i126_169, i126_172, i126_173, i126_175, i126_176, i126_179, i126_180, i126_181, i126_182, i126_184, i126_186, i126_187, i126_190, i126_191, i126_192, i126_193, i126_194, i126_196, i126_197, i126_200, i126_203, i126_204, nl_i, nl_r, nl_0, nl_j, nb0, nb1, nbI, orv_s, konN_v, konN_n, konN_e, true_and, and_true, and_self, if_true, if_false, ite_true, ite_false, isR_ref, true_or, or_true, bI_T, bI_F, bI_Fb, i1z, Bool.false_eq_true, d_k, d_f8, d_k2, d_l2, d_a2, d_wa2, s_zoneAt, s_sheetAt, s_kindAt, nI_1, nI_p2, nI_p3, nI_p4, nI_p5, nI_p6, ib_0, ib_1, ib_2, ib_3, ib_4, ib_5, ib_6, ib_7, ib_8, iz_0, iz_1, iz_2, iz_3, iz_4, iz_5, iz_6, iz_7, iz_8, ze_0, ze_1, ze_2, ze_3, ze_4, ze_5, ze_6, ze_7, ze_8, d6, hl, s_mThick hs20, s_warmth hs20, s_become hs20, upd_eq, upd_nz (show ¬ (111 + 7 * k : Nat) = 6 by omega), upd_nz (show ¬ (111 + 7 * k : Nat) = 5 by omega), upd_nz (show ¬ (111 + 7 * k : Nat) = 51 + 3 * s + 2 by omega), upd_nz (show ¬ (111 + 7 * k + 1 : Nat) = 6 by omega), upd_nz (show ¬ (111 + 7 * k + 1 : Nat) = 5 by omega), upd_nz (show ¬ (111 + 7 * k + 1 : Nat) = 51 + 3 * s + 2 by omega), upd_nz (show ¬ (111 + 7 * k + 2 : Nat) = 6 by omega), upd_nz (show ¬ (111 + 7 * k + 2 : Nat) = 5 by omega), upd_nz (show ¬ (111 + 7 * k + 2 : Nat) = 51 + 3 * s + 2 by omega), upd_nz (show ¬ (111 + 7 * k + 3 : Nat) = 6 by omega), upd_nz (show ¬ (111 + 7 * k + 3 : Nat) = 5 by omega), upd_nz (show ¬ (111 + 7 * k + 3 : Nat) = 51 + 3 * s + 2 by omega), upd_nz (show ¬ (4 : Nat) = 6 by omega), upd_nz (show ¬ (4 : Nat) = 5 by omega), upd_nz (show ¬ (4 : Nat) = 51 + 3 * s + 2 by omega), upd_nz (show ¬ (4 : Nat) = 111 + 7 * k + 1 by omega), upd_nz (show ¬ (111 + 7 * k + 3 : Nat) = 111 + 7 * k + 1 by omega), inbT (show 111 + 7 * k < 1451 by omega) (show 1451 < 2 ^ 31 by omega), zn_nI (show 111 + 7 * k < 2 ^ 31 by omega), inbT (show 111 + 7 * k + 1 < 1451 by omega) (show 1451 < 2 ^ 31 by omega), zn_nI (show 111 + 7 * k + 1 < 2 ^ 31 by omega), inbT (show 111 + 7 * k + 2 < 1451 by omega) (show 1451 < 2 ^ 31 by omega), zn_nI (show 111 + 7 * k + 2 < 2 ^ 31 by omega), inbT (show 111 + 7 * k + 3 < 1451 by omega) (show 1451 < 2 ^ 31 by omega), zn_nI (show 111 + 7 * k + 3 < 2 ^ 31 by omega), ek.2.1, ek.2.2.2, s4b, s_min, s_max, mlim]
          · rw [jf]
            dsimp only
            refine hI1 _ (fun x g1 g2 => by rw [upf_ne _ _ (by omega), upf_ne _ _ (by omega), upf_ne _ _ g1]) ⟨4, Or.inr rfl, rfl⟩ (fun y hy => ?_)
            show -50 ≤ upd (a 10) k _ y ∧ upd (a 10) k _ y ≤ 50
            by_cases e : y = k
            · rw [e, upd_eq]; exact lmr _
            · rw [upd_nz e]; exact i9 y hy
          · rw [jf]
            exact EQ_10 s2 i2 k20 (EQ_8 s2 i2 k20 (EQ_6 s2 i2 hs20 x1))
          · exact kk _ 3 (by omega) _ (kk _ 1 (by omega) _ (kst _ _ x2))
      · by_cases hh : ¬ sa 7 k = -1 ∧ sa 7 k < a 5 s
        · have jf : judgeF sa q (f 3) a = upf (upf (upf a 6 (upd (a 6) s 4)) 9 (upd (a 9) k (a 9 k + 1))) 10 (upd (a 10) k (lim (a 10 k + -q 2) (-50) 50)) := by
            unfold judgeF learnF
            dsimp only
            rw [if_pos hth, zs, zk, if_neg hc, if_pos hh]
            rfl
          rcases bk with ⟨b1, b2, b3⟩ | ⟨b1, b2, b3, b4, b5⟩
          · exact absurd b3 hh.1
          · have n6 : ¬ sa 6 k = -1 := fun y => by rw [y] at b4; exact absurd b4 (by decide)
            have c1 : (D (111 + 7 * k + 4) ≤ a 5 s) = True := eq_true (by rw [← b2]; exact Int32.not_lt.mp (fun y => hc ⟨n6, y⟩))
            have c2 : (a 5 s ≤ D (111 + 7 * k + 5)) = False := eq_false (by rw [← b3]; exact Int32.not_le.mpr hh.2)
            refine ⟨upd (upd (upd (upd (upd D 6 (f 4 - 1)) 5 0) (51 + 3 * s + 2) 4) (111 + 7 * k + 2) (a 9 k + 1)) (111 + 7 * k + 3) (lim (a 10 k + -q 2) (-50) 50), fun d K l1 l2 => ?_, ?_, ?_, ?_⟩
            · simp only [i128_107, i128_108, i128_111, i128_112, i128_113, i128_116, i128_117, i128_120, i128_122, i128_123, i128_124, i128_125, i128_126, i128_127, i128_128, i128_131, i128_133, i128_134, i128_137, i128_138, in126, i126_0, i126_1, i126_4, i126_5, i126_6, i126_7, i126_8, i126_9, i126_10, i126_11, i126_14, i126_17, i126_18, i126_19, i126_22, i126_23, i126_24, i126_25, i126_26, i126_29, i126_30, i126_32, i126_33, i126_34, i126_35, i126_38, i126_39, i126_40, i126_43, i126_44, i126_47, i126_48, i126_49, i126_50, i126_51, i126_54, i126_55, i126_58, i126_59, i126_60, i126_61, i126_64, i126_65, i126_67, i126_68, i126_69, i126_70, i126_73, i126_74, i126_75, i126_78, i126_79, i126_82, i126_83, i126_84, i126_85, i126_86, i126_89, i126_90, i126_93, i126_94, i126_96, i126_97, i126_98, i126_99, i126_102, i126_104, i126_107, i126_108, i126_111, i126_112, i126_115, i126_116, i126_119, i126_120, i126_121, i126_124, i126_125, i126_128, i126_130, i126_133, i126_134, i126_137, i126_138, i126_139, i126_140, i126_141, i126_142, i126_143, i126_144, i126_145, i126_148, i126_149, i126_152, i126_153, i126_154, i126_157, i126_159, i126_162, i126_163, i126_166, i126_167, i126_168, i126_169, i126_172, i126_173, i126_175, i126_176, i126_179, i126_180, i126_181, i126_182, i126_184, i126_186, i126_187, i126_190, i126_191, i126_192, i126_193, i126_194, i126_196, i126_197, i126_200, i126_203, i126_204, nl_i, nl_r, nl_0, nl_j, nb0, nb1, nbI, orv_s, konN_v, konN_n, konN_e, true_and, and_true, and_self, if_true, if_false, ite_true, ite_false, isR_ref, true_or, or_true, bI_T, bI_F, bI_Fb, i1z, Bool.false_eq_true, d_k, d_f8, d_k2, d_l2, d_a2, d_wa2, s_zoneAt, s_sheetAt, s_kindAt, nI_1, nI_p2, nI_p3, nI_p4, nI_p5, nI_p6, ib_0, ib_1, ib_2, ib_3, ib_4, ib_5, ib_6, ib_7, ib_8, iz_0, iz_1, iz_2, iz_3, iz_4, iz_5, iz_6, iz_7, iz_8, ze_0, ze_1, ze_2, ze_3, ze_4, ze_5, ze_6, ze_7, ze_8, d5, d6, hl, e3, h0, nI_1, sim0, s_mThick hs20, s_warmth hs20, s_become hs20, hk, upd_eq, upd_nz (show ¬ (5 : Nat) = 6 by omega), upd_nz (show ¬ (51 + 3 * s : Nat) = 6 by omega), upd_nz (show ¬ (51 + 3 * s : Nat) = 5 by omega), upd_nz (show ¬ (51 + 3 * s : Nat) = 51 + 3 * s + 2 by omega), upd_nz (show ¬ (51 + 3 * s + 1 : Nat) = 6 by omega), upd_nz (show ¬ (51 + 3 * s + 1 : Nat) = 5 by omega), upd_nz (show ¬ (51 + 3 * s + 1 : Nat) = 51 + 3 * s + 2 by omega), upd_nz (show ¬ (111 + 7 * k : Nat) = 6 by omega), upd_nz (show ¬ (111 + 7 * k : Nat) = 5 by omega), upd_nz (show ¬ (111 + 7 * k : Nat) = 51 + 3 * s + 2 by omega), upd_nz (show ¬ (111 + 7 * k + 1 : Nat) = 6 by omega), upd_nz (show ¬ (111 + 7 * k + 1 : Nat) = 5 by omega), upd_nz (show ¬ (111 + 7 * k + 1 : Nat) = 51 + 3 * s + 2 by omega), upd_nz (show ¬ (111 + 7 * k + 2 : Nat) = 6 by omega), upd_nz (show ¬ (111 + 7 * k + 2 : Nat) = 5 by omega), upd_nz (show ¬ (111 + 7 * k + 2 : Nat) = 51 + 3 * s + 2 by omega), upd_nz (show ¬ (111 + 7 * k + 3 : Nat) = 6 by omega), upd_nz (show ¬ (111 + 7 * k + 3 : Nat) = 5 by omega), upd_nz (show ¬ (111 + 7 * k + 3 : Nat) = 51 + 3 * s + 2 by omega), upd_nz (show ¬ (111 + 7 * k + 4 : Nat) = 6 by omega), upd_nz (show ¬ (111 + 7 * k + 4 : Nat) = 5 by omega), upd_nz (show ¬ (111 + 7 * k + 4 : Nat) = 51 + 3 * s + 2 by omega), upd_nz (show ¬ (111 + 7 * k + 5 : Nat) = 6 by omega), upd_nz (show ¬ (111 + 7 * k + 5 : Nat) = 5 by omega), upd_nz (show ¬ (111 + 7 * k + 5 : Nat) = 51 + 3 * s + 2 by omega), upd_nz (show ¬ (111 + 7 * k + 6 : Nat) = 6 by omega), upd_nz (show ¬ (111 + 7 * k + 6 : Nat) = 5 by omega), upd_nz (show ¬ (111 + 7 * k + 6 : Nat) = 51 + 3 * s + 2 by omega), upd_nz (show ¬ (4 : Nat) = 6 by omega), upd_nz (show ¬ (4 : Nat) = 5 by omega), upd_nz (show ¬ (4 : Nat) = 51 + 3 * s + 2 by omega), upd_nz (show ¬ (4 : Nat) = 111 + 7 * k + 2 by omega), upd_nz (show ¬ (111 + 7 * k + 3 : Nat) = 111 + 7 * k + 2 by omega), inbT (show 111 + 7 * k < 1451 by omega) (show 1451 < 2 ^ 31 by omega), zn_nI (show 111 + 7 * k < 2 ^ 31 by omega), inbT (show 111 + 7 * k + 1 < 1451 by omega) (show 1451 < 2 ^ 31 by omega), zn_nI (show 111 + 7 * k + 1 < 2 ^ 31 by omega), inbT (show 111 + 7 * k + 2 < 1451 by omega) (show 1451 < 2 ^ 31 by omega), zn_nI (show 111 + 7 * k + 2 < 2 ^ 31 by omega), inbT (show 111 + 7 * k + 3 < 1451 by omega) (show 1451 < 2 ^ 31 by omega), zn_nI (show 111 + 7 * k + 3 < 2 ^ 31 by omega), inbT (show 111 + 7 * k + 4 < 1451 by omega) (show 1451 < 2 ^ 31 by omega), zn_nI (show 111 + 7 * k + 4 < 2 ^ 31 by omega), inbT (show 111 + 7 * k + 5 < 1451 by omega) (show 1451 < 2 ^ 31 by omega), zn_nI (show 111 + 7 * k + 5 < 2 ^ 31 by omega), inbT (show 111 + 7 * k + 6 < 1451 by omega) (show 1451 < 2 ^ 31 by omega), zn_nI (show 111 + 7 * k + 6 < 2 ^ 31 by omega), ht.1, ht.2.1, b1, c1, c2, ek.2.2.1, ek.2.2.2, s4b, s_min, s_max, mlim]
            · rw [jf]
              dsimp only
              refine hI1 _ (fun x g1 g2 => by rw [upf_ne _ _ (by omega), upf_ne _ _ (by omega), upf_ne _ _ g1]) ⟨4, Or.inr rfl, rfl⟩ (fun y hy => ?_)
              show -50 ≤ upd (a 10) k _ y ∧ upd (a 10) k _ y ≤ 50
              by_cases e : y = k
              · rw [e, upd_eq]; exact lmr _
              · rw [upd_nz e]; exact i9 y hy
            · rw [jf]
              exact EQ_10 s2 i2 k20 (EQ_9 s2 i2 k20 (EQ_6 s2 i2 hs20 x1))
            · exact kk _ 3 (by omega) _ (kk _ 2 (by omega) _ (kst _ _ x2))
        · have jf : judgeF sa q (f 3) a = upf (upf a 6 (upd (a 6) s 3)) 7 (upd (a 7) k (a 7 k + 1)) := by
            unfold judgeF
            dsimp only
            rw [if_pos hth, zs, zk, if_neg hc, if_neg hh]
          have hc0 : lim (a 10 k + 0) (-50) 50 = a 10 k := by rw [Int32.add_zero]; exact lim_id (i9 k k20)
          have fin : INV nz ns (upf (upf f 4 (f 4 - 1)) 3 (-1)) (judgeF sa q (f 3) a) ∧ EQL nz ns (upf (upf f 4 (f 4 - 1)) 3 (-1)) (judgeF sa q (f 3) a) (upd (upd (upd (upd (upd D 6 (f 4 - 1)) 5 0) (51 + 3 * s + 2) 3) (111 + 7 * k) (a 7 k + 1)) (111 + 7 * k + 3) (a 10 k)) ∧ STA nz q sa n pg (upd (upd (upd (upd (upd D 6 (f 4 - 1)) 5 0) (51 + 3 * s + 2) 3) (111 + 7 * k) (a 7 k + 1)) (111 + 7 * k + 3) (a 10 k)) := by
            rw [jf]
            refine ⟨?_, ?_, ?_⟩
            · exact hI1 _ (fun x g1 g2 => by rw [upf_ne _ _ (by omega), upf_ne _ _ g1]) ⟨3, Or.inl rfl, rfl⟩ (fun y hy => i9 y hy)
            · have := EQ_10 (v := a 10 k) s2 i2 k20 (EQ_7 (v := a 7 k + 1) s2 i2 k20 (EQ_6 (v := 3) s2 i2 hs20 x1))
              have e : upf (upf (upf a 6 (upd (a 6) s 3)) 7 (upd (a 7) k (a 7 k + 1))) 10 (upd (a 10) k (a 10 k)) = upf (upf a 6 (upd (a 6) s 3)) 7 (upd (a 7) k (a 7 k + 1)) := upf_self (a := upf (upf a 6 (upd (a 6) s 3)) 7 (upd (a 7) k (a 7 k + 1))) (i := 10) (k := k)
              rw [show (upf (upf a 6 (upd (a 6) s 3)) 7 (upd ((upf a 6 (upd (a 6) s 3)) 7) k (a 7 k + 1))) = upf (upf a 6 (upd (a 6) s 3)) 7 (upd (a 7) k (a 7 k + 1)) from rfl] at this
              rw [show (upf (upf (upf a 6 (upd (a 6) s 3)) 7 (upd (a 7) k (a 7 k + 1))) 10 (upd ((upf (upf a 6 (upd (a 6) s 3)) 7 (upd (a 7) k (a 7 k + 1))) 10) k (a 10 k))) = upf (upf a 6 (upd (a 6) s 3)) 7 (upd (a 7) k (a 7 k + 1)) from e] at this
              exact this
            · exact kk _ 3 (by omega) _ (kk _ 0 (by omega) _ (kst _ _ x2))
          refine ⟨_, fun d K l1 l2 => ?_, fin⟩
          rcases bk with ⟨b1, b2, b3⟩ | ⟨b1, b2, b3, b4, b5⟩
          · have z01 : ((0 : Int32) = 1) = False := eq_false (by decide)
            simp only [i128_107, i128_108, i128_111, i128_112, i128_113, i128_116, i128_117, i128_120, i128_122, i128_123, i128_124, i128_125, i128_126, i128_127, i128_128, i128_131, i128_133, i128_134, i128_137, i128_138, in126, i126_0, i126_1, i126_4, i126_5, i126_6, i126_7, i126_8, i126_9, i126_10, i126_11, i126_14, i126_17, i126_18, i126_19, i126_22, i126_23, i126_24, i126_25, i126_26, i126_29, i126_30, i126_32, i126_33, i126_34, i126_35, i126_38, i126_39, i126_40, i126_43, i126_44, i126_47, i126_48, i126_49, i126_50, i126_51, i126_54, i126_55, i126_58, i126_59, i126_60, i126_61, i126_64, i126_65, i126_67, i126_68, i126_69, i126_70, i126_73, i126_74, i126_75, i126_78, i126_79, i126_82, i126_83, i126_84, i126_85, i126_86, i126_89, i126_90, i126_93, i126_94, i126_96, i126_97, i126_98, i126_99, i126_102, i126_104, i126_107, i126_108, i126_111, i126_112, i126_115, i126_116, i126_119, i126_120, i126_121, i126_124, i126_125, i126_128, i126_130, i126_133, i126_134, i126_137, i126_138, i126_139, i126_140, i126_141, i126_142, i126_143, i126_144, i126_145, i126_148, i126_149, i126_152, i126_153, i126_154, i126_157, i126_159, i126_162, i126_163, i126_166, i126_167, i126_168, i126_169, i126_172, i126_173, i126_175, i126_176, i126_179, i126_180, i126_181, i126_182, i126_184, i126_186, i126_187, i126_190, i126_191, i126_192, i126_193, i126_194, i126_196, i126_197, i126_200, i126_203, i126_204, nl_i, nl_r, nl_0, nl_j, nb0, nb1, nbI, orv_s, konN_v, konN_n, konN_e, true_and, and_true, and_self, if_true, if_false, ite_true, ite_false, isR_ref, true_or, or_true, bI_T, bI_F, bI_Fb, i1z, Bool.false_eq_true, d_k, d_f8, d_k2, d_l2, d_a2, d_wa2, s_zoneAt, s_sheetAt, s_kindAt, nI_1, nI_p2, nI_p3, nI_p4, nI_p5, nI_p6, ib_0, ib_1, ib_2, ib_3, ib_4, ib_5, ib_6, ib_7, ib_8, iz_0, iz_1, iz_2, iz_3, iz_4, iz_5, iz_6, iz_7, iz_8, ze_0, ze_1, ze_2, ze_3, ze_4, ze_5, ze_6, ze_7, ze_8, d5, d6, hl, e3, h0, nI_1, sim0, s_mThick hs20, s_warmth hs20, s_become hs20, hk, upd_eq, upd_nz (show ¬ (5 : Nat) = 6 by omega), upd_nz (show ¬ (51 + 3 * s : Nat) = 6 by omega), upd_nz (show ¬ (51 + 3 * s : Nat) = 5 by omega), upd_nz (show ¬ (51 + 3 * s : Nat) = 51 + 3 * s + 2 by omega), upd_nz (show ¬ (51 + 3 * s + 1 : Nat) = 6 by omega), upd_nz (show ¬ (51 + 3 * s + 1 : Nat) = 5 by omega), upd_nz (show ¬ (51 + 3 * s + 1 : Nat) = 51 + 3 * s + 2 by omega), upd_nz (show ¬ (111 + 7 * k : Nat) = 6 by omega), upd_nz (show ¬ (111 + 7 * k : Nat) = 5 by omega), upd_nz (show ¬ (111 + 7 * k : Nat) = 51 + 3 * s + 2 by omega), upd_nz (show ¬ (111 + 7 * k + 1 : Nat) = 6 by omega), upd_nz (show ¬ (111 + 7 * k + 1 : Nat) = 5 by omega), upd_nz (show ¬ (111 + 7 * k + 1 : Nat) = 51 + 3 * s + 2 by omega), upd_nz (show ¬ (111 + 7 * k + 2 : Nat) = 6 by omega), upd_nz (show ¬ (111 + 7 * k + 2 : Nat) = 5 by omega), upd_nz (show ¬ (111 + 7 * k + 2 : Nat) = 51 + 3 * s + 2 by omega), upd_nz (show ¬ (111 + 7 * k + 3 : Nat) = 6 by omega), upd_nz (show ¬ (111 + 7 * k + 3 : Nat) = 5 by omega), upd_nz (show ¬ (111 + 7 * k + 3 : Nat) = 51 + 3 * s + 2 by omega), upd_nz (show ¬ (111 + 7 * k + 4 : Nat) = 6 by omega), upd_nz (show ¬ (111 + 7 * k + 4 : Nat) = 5 by omega), upd_nz (show ¬ (111 + 7 * k + 4 : Nat) = 51 + 3 * s + 2 by omega), upd_nz (show ¬ (111 + 7 * k + 5 : Nat) = 6 by omega), upd_nz (show ¬ (111 + 7 * k + 5 : Nat) = 5 by omega), upd_nz (show ¬ (111 + 7 * k + 5 : Nat) = 51 + 3 * s + 2 by omega), upd_nz (show ¬ (111 + 7 * k + 6 : Nat) = 6 by omega), upd_nz (show ¬ (111 + 7 * k + 6 : Nat) = 5 by omega), upd_nz (show ¬ (111 + 7 * k + 6 : Nat) = 51 + 3 * s + 2 by omega), upd_nz (show ¬ (4 : Nat) = 6 by omega), upd_nz (show ¬ (4 : Nat) = 5 by omega), upd_nz (show ¬ (4 : Nat) = 51 + 3 * s + 2 by omega), upd_nz (show ¬ (4 : Nat) = 111 + 7 * k by omega), upd_nz (show ¬ (111 + 7 * k + 3 : Nat) = 111 + 7 * k by omega), inbT (show 111 + 7 * k < 1451 by omega) (show 1451 < 2 ^ 31 by omega), zn_nI (show 111 + 7 * k < 2 ^ 31 by omega), inbT (show 111 + 7 * k + 1 < 1451 by omega) (show 1451 < 2 ^ 31 by omega), zn_nI (show 111 + 7 * k + 1 < 2 ^ 31 by omega), inbT (show 111 + 7 * k + 2 < 1451 by omega) (show 1451 < 2 ^ 31 by omega), zn_nI (show 111 + 7 * k + 2 < 2 ^ 31 by omega), inbT (show 111 + 7 * k + 3 < 1451 by omega) (show 1451 < 2 ^ 31 by omega), zn_nI (show 111 + 7 * k + 3 < 2 ^ 31 by omega), inbT (show 111 + 7 * k + 4 < 1451 by omega) (show 1451 < 2 ^ 31 by omega), zn_nI (show 111 + 7 * k + 4 < 2 ^ 31 by omega), inbT (show 111 + 7 * k + 5 < 1451 by omega) (show 1451 < 2 ^ 31 by omega), zn_nI (show 111 + 7 * k + 5 < 2 ^ 31 by omega), inbT (show 111 + 7 * k + 6 < 1451 by omega) (show 1451 < 2 ^ 31 by omega), zn_nI (show 111 + 7 * k + 6 < 2 ^ 31 by omega), Int32.add_zero, ht.1, ht.2.1, b1, z01, ek.1, ek.2.2.2, s4b, s_min, s_max, mlim, lim_id (i9 k k20)]
          · have n6 : ¬ sa 6 k = -1 := fun y => by rw [y] at b4; exact absurd b4 (by decide)
            have n7 : ¬ sa 7 k = -1 := fun y => by rw [y] at b5; exact absurd b5 (by decide)
            have c1 : (D (111 + 7 * k + 4) ≤ a 5 s) = True := eq_true (by rw [← b2]; exact Int32.not_lt.mp (fun y => hc ⟨n6, y⟩))
            have c2 : (a 5 s ≤ D (111 + 7 * k + 5)) = True := eq_true (by rw [← b3]; exact Int32.not_lt.mp (fun y => hh ⟨n7, y⟩))
            simp only [i128_107, i128_108, i128_111, i128_112, i128_113, i128_116, i128_117, i128_120, i128_122, i128_123, i128_124, i128_125, i128_126, i128_127, i128_128, i128_131, i128_133, i128_134, i128_137, i128_138, in126, i126_0, i126_1, i126_4, i126_5, i126_6, i126_7, i126_8, i126_9, i126_10, i126_11, i126_14, i126_17, i126_18, i126_19, i126_22, i126_23, i126_24, i126_25, i126_26, i126_29, i126_30, i126_32, i126_33, i126_34, i126_35, i126_38, i126_39, i126_40, i126_43, i126_44, i126_47, i126_48, i126_49, i126_50, i126_51, i126_54, i126_55, i126_58, i126_59, i126_60, i126_61, i126_64, i126_65, i126_67, i126_68, i126_69, i126_70, i126_73, i126_74, i126_75, i126_78, i126_79, i126_82, i126_83, i126_84, i126_85, i126_86, i126_89, i126_90, i126_93, i126_94, i126_96, i126_97, i126_98, i126_99, i126_102, i126_104, i126_107, i126_108, i126_111, i126_112, i126_115, i126_116, i126_119, i126_120, i126_121, i126_124, i126_125, i126_128, i126_130, i126_133, i126_134, i126_137, i126_138, i126_139, i126_140, i126_141, i126_142, i126_143, i126_144, i126_145, i126_148, i126_149, i126_152, i126_153, i126_154, i126_157, i126_159, i126_162, i126_163, i126_166, i126_167, i126_168, i126_169, i126_172, i126_173, i126_175, i126_176, i126_179, i126_180, i126_181, i126_182, i126_184, i126_186, i126_187, i126_190, i126_191, i126_192, i126_193, i126_194, i126_196, i126_197, i126_200, i126_203, i126_204, nl_i, nl_r, nl_0, nl_j, nb0, nb1, nbI, orv_s, konN_v, konN_n, konN_e, true_and, and_true, and_self, if_true, if_false, ite_true, ite_false, isR_ref, true_or, or_true, bI_T, bI_F, bI_Fb, i1z, Bool.false_eq_true, d_k, d_f8, d_k2, d_l2, d_a2, d_wa2, s_zoneAt, s_sheetAt, s_kindAt, nI_1, nI_p2, nI_p3, nI_p4, nI_p5, nI_p6, ib_0, ib_1, ib_2, ib_3, ib_4, ib_5, ib_6, ib_7, ib_8, iz_0, iz_1, iz_2, iz_3, iz_4, iz_5, iz_6, iz_7, iz_8, ze_0, ze_1, ze_2, ze_3, ze_4, ze_5, ze_6, ze_7, ze_8, d5, d6, hl, e3, h0, nI_1, sim0, s_mThick hs20, s_warmth hs20, s_become hs20, hk, upd_eq, upd_nz (show ¬ (5 : Nat) = 6 by omega), upd_nz (show ¬ (51 + 3 * s : Nat) = 6 by omega), upd_nz (show ¬ (51 + 3 * s : Nat) = 5 by omega), upd_nz (show ¬ (51 + 3 * s : Nat) = 51 + 3 * s + 2 by omega), upd_nz (show ¬ (51 + 3 * s + 1 : Nat) = 6 by omega), upd_nz (show ¬ (51 + 3 * s + 1 : Nat) = 5 by omega), upd_nz (show ¬ (51 + 3 * s + 1 : Nat) = 51 + 3 * s + 2 by omega), upd_nz (show ¬ (111 + 7 * k : Nat) = 6 by omega), upd_nz (show ¬ (111 + 7 * k : Nat) = 5 by omega), upd_nz (show ¬ (111 + 7 * k : Nat) = 51 + 3 * s + 2 by omega), upd_nz (show ¬ (111 + 7 * k + 1 : Nat) = 6 by omega), upd_nz (show ¬ (111 + 7 * k + 1 : Nat) = 5 by omega), upd_nz (show ¬ (111 + 7 * k + 1 : Nat) = 51 + 3 * s + 2 by omega), upd_nz (show ¬ (111 + 7 * k + 2 : Nat) = 6 by omega), upd_nz (show ¬ (111 + 7 * k + 2 : Nat) = 5 by omega), upd_nz (show ¬ (111 + 7 * k + 2 : Nat) = 51 + 3 * s + 2 by omega), upd_nz (show ¬ (111 + 7 * k + 3 : Nat) = 6 by omega), upd_nz (show ¬ (111 + 7 * k + 3 : Nat) = 5 by omega), upd_nz (show ¬ (111 + 7 * k + 3 : Nat) = 51 + 3 * s + 2 by omega), upd_nz (show ¬ (111 + 7 * k + 4 : Nat) = 6 by omega), upd_nz (show ¬ (111 + 7 * k + 4 : Nat) = 5 by omega), upd_nz (show ¬ (111 + 7 * k + 4 : Nat) = 51 + 3 * s + 2 by omega), upd_nz (show ¬ (111 + 7 * k + 5 : Nat) = 6 by omega), upd_nz (show ¬ (111 + 7 * k + 5 : Nat) = 5 by omega), upd_nz (show ¬ (111 + 7 * k + 5 : Nat) = 51 + 3 * s + 2 by omega), upd_nz (show ¬ (111 + 7 * k + 6 : Nat) = 6 by omega), upd_nz (show ¬ (111 + 7 * k + 6 : Nat) = 5 by omega), upd_nz (show ¬ (111 + 7 * k + 6 : Nat) = 51 + 3 * s + 2 by omega), upd_nz (show ¬ (4 : Nat) = 6 by omega), upd_nz (show ¬ (4 : Nat) = 5 by omega), upd_nz (show ¬ (4 : Nat) = 51 + 3 * s + 2 by omega), upd_nz (show ¬ (4 : Nat) = 111 + 7 * k by omega), upd_nz (show ¬ (111 + 7 * k + 3 : Nat) = 111 + 7 * k by omega), inbT (show 111 + 7 * k < 1451 by omega) (show 1451 < 2 ^ 31 by omega), zn_nI (show 111 + 7 * k < 2 ^ 31 by omega), inbT (show 111 + 7 * k + 1 < 1451 by omega) (show 1451 < 2 ^ 31 by omega), zn_nI (show 111 + 7 * k + 1 < 2 ^ 31 by omega), inbT (show 111 + 7 * k + 2 < 1451 by omega) (show 1451 < 2 ^ 31 by omega), zn_nI (show 111 + 7 * k + 2 < 2 ^ 31 by omega), inbT (show 111 + 7 * k + 3 < 1451 by omega) (show 1451 < 2 ^ 31 by omega), zn_nI (show 111 + 7 * k + 3 < 2 ^ 31 by omega), inbT (show 111 + 7 * k + 4 < 1451 by omega) (show 1451 < 2 ^ 31 by omega), zn_nI (show 111 + 7 * k + 4 < 2 ^ 31 by omega), inbT (show 111 + 7 * k + 5 < 1451 by omega) (show 1451 < 2 ^ 31 by omega), zn_nI (show 111 + 7 * k + 5 < 2 ^ 31 by omega), inbT (show 111 + 7 * k + 6 < 1451 by omega) (show 1451 < 2 ^ 31 by omega), zn_nI (show 111 + 7 * k + 6 < 2 ^ 31 by omega), Int32.add_zero, ht.1, ht.2.1, b1, c1, c2, ek.1, ek.2.2.2, s4b, s_min, s_max, mlim, lim_id (i9 k k20)]
    · have hf : quL sa q (f, a) = (upf f 4 (f 4 - 1), a) := qu_stay hv (fun y => hl (dc1.mp y))
      rw [hf]
      refine ⟨upd D 6 (f 4 - 1), fun d K l1 l2 => ?_, ⟨⟨i1, i2, i3⟩, Or.inr ⟨s, hs, h0, dc2 hl, h6⟩, i5, i7, i8, i9⟩, EQ_6w s2 i2 hE, STA_upd (by omega) hS⟩
      simp only [i128_107, i128_108, i128_111, i128_112, i128_113, i128_116, i128_117, i128_120, i128_122, i128_123, i128_124, i128_125, i128_126, i128_127, i128_128, i128_131, i128_133, i128_134, i128_137, i128_138, nl_i, nl_r, nl_0, nl_j, nb0, nb1, nbI, orv_s, konN_v, konN_n, konN_e, true_and, and_true, and_self, if_true, if_false, ite_true, ite_false, isR_ref, true_or, or_true, bI_T, bI_F, bI_Fb, i1z, Bool.false_eq_true, d_k, d_f8, d_k2, d_l2, d_a2, d_wa2, s_zoneAt, s_sheetAt, s_kindAt, nI_1, nI_p2, nI_p3, nI_p4, nI_p5, nI_p6, ib_0, ib_1, ib_2, ib_3, ib_4, ib_5, ib_6, ib_7, ib_8, iz_0, iz_1, iz_2, iz_3, iz_4, iz_5, iz_6, iz_7, iz_8, ze_0, ze_1, ze_2, ze_3, ze_4, ze_5, ze_6, ze_7, ze_8, e3, h0, nI_1, d5, d6, upd_eq, hl]
end QU
