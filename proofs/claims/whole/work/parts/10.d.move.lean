/-! THE LINE: moving on -/
theorem un_eq {x : Int32} : ∀ (m k : Nat) (g : Nat → Int32), itn (unStep x) k m g = fun j => if k ≤ j ∧ j < k + m ∧ g j = x then -1 else g j
  | 0, k, g => by
    funext j
    rw [if_neg (by omega)]
    rfl
  | m + 1, k, g => by
    rw [itn, un_eq m (k + 1)]
    funext j
    unfold unStep
    by_cases e : g k = x
    · rw [if_pos e]
      by_cases ej : j = k
      · subst ej
        rw [if_neg (by omega), upd_eq, if_pos ⟨by omega, by omega, e⟩]
      · rw [upd_nz ej]
        by_cases h : k + 1 ≤ j ∧ j < k + 1 + m ∧ g j = x
        · rw [if_pos h, if_pos ⟨by omega, by omega, h.2.2⟩]
        · rw [if_neg h, if_neg (fun z => h ⟨by omega, by omega, z.2.2⟩)]
    · rw [if_neg e]
      by_cases h : k + 1 ≤ j ∧ j < k + 1 + m ∧ g j = x
      · rw [if_pos h, if_pos ⟨by omega, by omega, h.2.2⟩]
      · rw [if_neg h, if_neg (fun z => h ⟨by
          have : ¬ j = k := fun y => e (by rw [← y]; exact z.2.2)
          omega, by omega, z.2.2⟩)]
theorem nI_nm1 {s : Nat} (hs : s < 2 ^ 31) : ¬ nI s = -1 := fun y => nI_pos hs (by rw [y]; decide)
section H3S
variable {nz ns s z : Nat} {g st : Nat → Int32} {v x y : Int32}
theorem H3_un (h : H3 nz ns g st) (hns : ns ≤ 20) (hs : s < ns) (hz : z < nz) (hg : g z = nI s) : itn (unStep (nI s)) 0 nz g = upd g z (-1) := by
  rw [un_eq]
  funext j
  by_cases e : j = z
  · subst e
    rw [if_pos ⟨by omega, by omega, hg⟩, upd_eq]
  · rw [upd_nz e, if_neg]
    intro w
    have := h.2 j z (by omega) hz e (w.2.2.trans hg.symm)
    rw [w.2.2] at this
    exact nI_nm1 (by omega) this
theorem H3_rm (h : H3 nz ns g st) (hns : ns ≤ 20) (hs : s < ns) (hz : z < nz) (hg : g z = nI s) : H3 nz ns (upd g z (-1)) (upd st s v) := by
  refine ⟨fun j hj => ?_, fun j j' hj hj' hne he => ?_⟩
  · by_cases e : j = z
    · subst e; exact Or.inl upd_eq
    · rw [upd_nz e]
      rcases h.1 j hj with h1 | ⟨s', h1, h2, h3⟩
      · exact Or.inl h1
      · refine Or.inr ⟨s', h1, h2, ?_⟩
        rw [upd_nz]
        · exact h3
        · intro w
          subst w
          have := h.2 j z hj hz e (h2.trans hg.symm)
          rw [h2] at this
          exact nI_nm1 (by omega) this
  · by_cases e : j = z
    · subst e; exact upd_eq
    · by_cases e' : j' = z
      · subst e'
        rw [upd_eq] at he
        exact he
      · rw [upd_nz e, upd_nz e'] at he
        rw [upd_nz e]
        exact h.2 j j' hj hj' hne he
theorem H3_mv (h : H3 nz ns g st) (hns : ns ≤ 20) (hs : s < ns) (hz : z < nz) (hz' : z + 1 < nz) (hg : g z = nI s) (h1 : st s = 1) (hg' : g (z + 1) = -1) : H3 nz ns (upd (upd g z (-1)) (z + 1) (nI s)) st := by
  have key : ∀ j, j < nz → ¬ j = z → ¬ g j = nI s := fun j hj e w => by
    have := h.2 j z hj hz e (w.trans hg.symm)
    rw [w] at this
    exact nI_nm1 (by omega) this
  have val : ∀ j, upd (upd g z (-1)) (z + 1) (nI s) j = if j = z + 1 then nI s else if j = z then -1 else g j := fun j => rfl
  refine ⟨fun j hj => ?_, fun j j' hj hj' hne he => ?_⟩
  · rw [val]
    by_cases e : j = z + 1
    · rw [if_pos e]; exact Or.inr ⟨s, hs, rfl, h1⟩
    · rw [if_neg e]
      by_cases e2 : j = z
      · rw [if_pos e2]; exact Or.inl rfl
      · rw [if_neg e2]; exact h.1 j hj
  · rw [val, val] at he
    rw [val]
    by_cases e : j = z + 1
    · rw [if_pos e] at he
      rw [if_neg (by omega)] at he
      by_cases e2 : j' = z
      · rw [if_pos e2] at he
        exact absurd he (nI_nm1 (by omega))
      · rw [if_neg e2] at he
        exact absurd he.symm (key j' hj' e2)
    · rw [if_neg e]
      by_cases e2 : j = z
      · rw [if_pos e2]
      · rw [if_neg e2]
        rw [if_neg e, if_neg e2] at he
        by_cases e3 : j' = z + 1
        · rw [if_pos e3] at he
          exact absurd he (key j hj e2)
        · rw [if_neg e3] at he
          by_cases e4 : j' = z
          · rw [if_pos e4] at he
            exact he
          · rw [if_neg e4] at he
            exact h.2 j j' hj hj' hne he
theorem Q3_st (h : Q3 ns x y st) (h1 : st s = 1) : Q3 ns x y (upd st s v) := by
  rcases h with h | ⟨s', a1, a2, a3, a4⟩
  · exact Or.inl h
  · refine Or.inr ⟨s', a1, a2, a3, ?_⟩
    rw [upd_nz (fun w => by rw [w, h1] at a4; exact absurd a4 (by decide))]
    exact a4
end H3S
theorem upd_cm {D : Nat → Int32} {i j : Nat} {v w : Int32} (h : ¬ i = j) : upd (upd D i v) j w = upd (upd D j w) i v := by
  funext l
  unfold upd
  by_cases e : l = j
  · subst e
    rw [if_pos rfl, if_neg (fun z => h z.symm), if_pos rfl]
  · rw [if_neg e, if_neg e]
section MV
variable {nz ns n z : Nat} {q pg f D : Nat → Int32} {a sa : Nat → Nat → Int32} {c : HP} {J : Nat → Nat → Int64}
theorem INV_st {s : Nat} {v : Int32} {a' : Nat → Nat → Int32} {f' : Nat → Int32} (hI : INV nz ns f a) (h2 : f' 2 = f 2) (hQ : Q3 ns (f' 3) (f' 4) (a' 6)) (hH : H3 nz ns (a' 3) (a' 6)) (ha : ∀ i, ¬ i = 3 → ¬ i = 6 → a' i = a i) (h6 : a' 6 = upd (a 6) s v ∨ a' 6 = a 6) (hv : 0 ≤ v ∧ v ≤ 5) : INV nz ns f' a' := by
  obtain ⟨⟨i1, i2, i3⟩, i4, i5, i7, i8, i9⟩ := hI
  refine ⟨⟨h2.trans i1, i2, i3⟩, hQ, hH, ?_, ?_, ?_⟩
  · rw [ha 1 (by omega) (by omega), ha 2 (by omega) (by omega)]
    exact i7
  · rw [ha 4 (by omega) (by omega), ha 5 (by omega) (by omega)]
    intro y hy
    refine ⟨(i8 y hy).1, (i8 y hy).2.1, ?_⟩
    rcases h6 with h6 | h6
    · rw [h6]
      by_cases e : y = s
      · rw [e, upd_eq]; exact hv
      · rw [upd_nz e]; exact (i8 y hy).2.2
    · rw [h6]; exact (i8 y hy).2.2
  · rw [ha 10 (by omega) (by omega)]
    exact i9
theorem move_step (hI : INV nz ns f a) (hE : EQL nz ns f a D) (hS : STA nz q sa n pg D) (hz : z < nz) :
    ∃ D', (∀ d K, EvM (d + 2) 127 [.ref 140, .int (nI z)] (dH c J D) K = K (.inl none) (dH c J D')) ∧ INV nz ns (moveF sa q z (f, a)).1 (moveF sa q z (f, a)).2 ∧ EQL nz ns (moveF sa q z (f, a)).1 (moveF sa q z (f, a)).2 D' ∧ STA nz q sa n pg D' := by
  have hI0 := hI
  have hE0 := hE
  have hS0 := hS
  obtain ⟨⟨i1, i2, i3⟩, i4, i5, i7, i8, i9⟩ := hI0
  obtain ⟨⟨e1, e2, e3, e4⟩, e5, e6, e7⟩ := hE0
  obtain ⟨⟨s1, s2, s3⟩, ⟨s4, s4b, s4c⟩, s5, s6, s7⟩ := hS0
  have hz6 : z < 6 := by omega
  obtain ⟨z1, z2, z3⟩ := e5 z hz
  obtain ⟨⟨u1, u2, u3, u4⟩, u5, u6⟩ := s5 z hz
  rcases i5.1 z hz with h0 | ⟨s, hs, h0, h6⟩
  · have hf : moveF sa q z (f, a) = (f, a) := by
      unfold moveF
      dsimp only
      rw [if_neg]
      intro y
      rw [h0] at y
      exact absurd y.1 (by decide)
    rw [hf]
    refine ⟨D, fun d K => ?_, hI, hE, hS⟩
    simp only [i127_0, i127_1, i127_2, i127_5, i127_6, i127_7, i127_10, i127_11, i127_12, i127_13, i127_16, in127, nl_i, nl_r, nl_0, nl_j, nb0, nb1, nbI, orv_s, konN_v, konN_n, konN_e, true_and, and_true, and_self, if_true, if_false, ite_true, ite_false, isR_ref, true_or, or_true, bI_T, bI_F, bI_Fb, i1z, Bool.false_eq_true, d_k, d_f8, d_k2, d_l2, d_a2, d_wa2, s_zoneAt, s_sheetAt, s_kindAt, nI_1, nI_p2, nI_p3, nI_p4, nI_p5, nI_p6, ib_0, ib_1, ib_2, ib_3, ib_4, ib_5, ib_6, ib_7, ib_8, iz_0, iz_1, iz_2, iz_3, iz_4, iz_5, iz_6, iz_7, iz_8, ze_0, ze_1, ze_2, ze_3, ze_4, ze_5, ze_6, ze_7, ze_8, s_held hz6, z3, i1c, h0]
  · have hs20 : s < 20 := by omega
    have ht := e6 s hs
    obtain ⟨v1, v2, v3⟩ := i8 s hs
    obtain ⟨k, k20, k2, hk⟩ := th_nI v1.1 v1.2
    have zs : zn (a 3 z) = s := by rw [h0]; exact zn_nI (by omega)
    have zk : zn (a 4 s) = k := by rw [hk]; exact zn_nI (by omega)
    have hv : 0 ≤ a 3 z ∧ a 3 z < f 2 := by
      rw [h0, i1]
      exact ⟨nI_pos' (by omega), (nI_ltI (by omega) (by omega)).mpr hs⟩
    have nm1 : ¬ nI s = -1 := nI_nm1 (by omega)
    obtain ⟨m, rfl⟩ : ∃ m, nz = m + 1 := ⟨nz - 1, by omega⟩
    have zq : zn (q 0) = m + 1 := by rw [s1]; exact zn_nI (by omega)
    have ek := e7 k k20
    have kst : ∀ F : Nat → Int32, ∀ w, STA (m + 1) q sa n pg F → STA (m + 1) q sa n pg (upd F (51 + 3 * s + 2) w) := fun F w h => STA_upd (Or.inr (Or.inr (Or.inr (Or.inr (Or.inr (Or.inl (by omega))))))) h
    have kzt : ∀ F : Nat → Int32, ∀ y, y < 6 → ∀ w, STA (m + 1) q sa n pg F → STA (m + 1) q sa n pg (upd F (9 + 7 * y + 6) w) := fun F y hy w h => STA_upd (Or.inr (Or.inr (Or.inr (Or.inr (Or.inl ⟨y, hy, by omega⟩))))) h
    have v5 : (0 : Int32) ≤ 5 ∧ (5 : Int32) ≤ 5 := by decide
    have v22 : (0 : Int32) ≤ 2 ∧ (2 : Int32) ≤ 5 := by decide
    -- with the shift sh
    have spoil : moveF sa q z (f, a) = (f, spoilL (m + 1) (nI s) a) → ∀ D', D' = upd (upd D (51 + 3 * s + 2) 5) (9 + 7 * z + 6) (-1 + 1) → INV (m + 1) ns (moveF sa q z (f, a)).1 (moveF sa q z (f, a)).2 ∧ EQL (m + 1) ns (moveF sa q z (f, a)).1 (moveF sa q z (f, a)).2 D' ∧ STA (m + 1) q sa n pg D' := fun hf D' hD => by
      rw [hf, hD]
      have e : spoilL (m + 1) (nI s) a = upf (upf a 6 (upd (a 6) s 5)) 3 (upd (a 3) z (-1)) := by
        unfold spoilL
        rw [show zn (nI s) = s from zn_nI (by omega), H3_un i5 i2 hs hz h0]
      rw [e]
      refine ⟨INV_st hI rfl (Q3_st i4 h6) (H3_rm i5 i2 hs hz h0) (fun i g1 g2 => by dsimp only; rw [upf_ne _ _ g1, upf_ne _ _ g2]) (Or.inl rfl) v5, ?_, kzt _ z hz6 _ (kst _ _ hS)⟩
      exact EQ_3 s2 i2 hz6 rfl (EQ_6 s2 i2 hs20 hE)
    by_cases hlast : z = m
    · subst hlast
      have hq : nI z = q 0 - 1 := by rw [s1, nI_pred]
      have d0 : (nI z = D 0 - 1) = True := eq_true (by rw [s3, nI_pred])
      have hcor : corF a (a 4 s) = a 10 k := by
        unfold corF
        rw [if_pos v1, zk]
      by_cases hup : sa 5 z + a 10 k < a 5 s
      · have hf : moveF sa q z (f, a) = (f, spoilL (z + 1) (nI s) a) := by
          unfold moveF
          dsimp only
          rw [if_pos hv, if_pos hq, zs, hcor, if_pos hup, zq, h0]
        refine ⟨_, fun d K => ?_, spoil hf _ rfl⟩
        simp only [in127, i127_0, i127_1, i127_2, i127_5, i127_6, i127_7, i127_10, i127_11, i127_12, i127_13, i127_16, i127_17, i127_18, i127_19, i127_22, i127_23, i127_24, i127_25, i127_26, i127_29, i127_30, i127_33, i127_34, i127_36, i127_38, i127_41, i127_42, i127_45, i127_46, i127_47, i127_50, i127_53, i127_54, i127_55, i127_56, i127_59, i127_60, i127_62, i127_63, i127_64, i127_67, i127_68, i127_71, i127_72, i127_73, i127_74, i127_75, i127_77, i127_78, i127_81, i127_82, i127_83, i127_84, i127_87, i127_88, i127_89, i127_90, i127_93, i127_96, i127_97, i127_98, i127_101, i127_102, i127_105, i127_106, i127_107, i127_108, i127_109, i127_111, i127_112, i127_115, i127_117, i127_120, i127_121, i127_124, i127_125, i127_126, i127_129, i127_132, i127_133, i127_134, i127_135, i127_136, i127_139, i127_140, i127_143, i127_144, i127_145, i127_146, i127_149, i127_151, i127_154, i127_155, i127_156, i127_157, i127_158, i127_159, i127_162, i127_165, i127_166, i127_169, i127_170, i127_171, i127_172, i127_173, i127_174, i127_175, i127_178, i127_180, i127_181, i127_182, i127_185, i127_186, i127_189, i127_190, i127_191, i127_192, i127_193, i127_194, i127_195, i127_196, i127_199, nl_i, nl_r, nl_0, nl_j, nb0, nb1, nbI, orv_s, konN_v, konN_n, konN_e, true_and, and_true, and_self, if_true, if_false, ite_true, ite_false, isR_ref, true_or, or_true, bI_T, bI_F, bI_Fb, i1z, Bool.false_eq_true, d_k, d_f8, d_k2, d_l2, d_a2, d_wa2, s_zoneAt, s_sheetAt, s_kindAt, nI_1, nI_p2, nI_p3, nI_p4, nI_p5, nI_p6, ib_0, ib_1, ib_2, ib_3, ib_4, ib_5, ib_6, ib_7, ib_8, iz_0, iz_1, iz_2, iz_3, iz_4, iz_5, iz_6, iz_7, iz_8, ze_0, ze_1, ze_2, ze_3, ze_4, ze_5, ze_6, ze_7, ze_8, s_held hz6, s_hold hz6, z3, i1c, nI_pred, h0, nm1, s3, s_mThick hs20, s_warmth hs20, s_become hs20, ht.1, ht.2.1, hk, u3, u4, ek.2.2.2, inbT (show 9 + 7 * z + 4 < 1451 by omega) (show 1451 < 2 ^ 31 by omega), zn_nI (show 9 + 7 * z + 4 < 2 ^ 31 by omega), inbT (show 9 + 7 * z + 3 < 1451 by omega) (show 1451 < 2 ^ 31 by omega), zn_nI (show 9 + 7 * z + 3 < 2 ^ 31 by omega), inbT (show 111 + 7 * k + 3 < 1451 by omega) (show 1451 < 2 ^ 31 by omega), zn_nI (show 111 + 7 * k + 3 < 2 ^ 31 by omega), eq_false (Int32.not_le.mpr hup)]
      · have hup' : (a 5 s ≤ sa 5 z + a 10 k) = True := eq_true (Int32.not_lt.mp hup)
        by_cases hlo : sa 4 z + a 10 k ≤ a 5 s
        · by_cases hq3 : f 3 = -1
          · have hf : moveF sa q z (f, a) = (upf (upf f 3 (nI s)) 4 (a 4 s * q 1), upf (upf a 3 (upd (a 3) z (-1))) 6 (upd (a 6) s 2)) := by
              unfold moveF toQuF
              dsimp only
              rw [if_pos hv, if_pos hq, zs, hcor, if_neg hup, if_pos hlo, if_pos hq, if_pos hq3, h0]
            have d5 : D 5 = 0 := by rw [e3, hq3]; rfl
            rw [hf]
            have e45 : upf (upf f 3 (nI s)) 4 (a 4 s * q 1) = upf (upf f 4 (a 4 s * q 1)) 3 (nI s) := upf_comm (by decide)
            refine ⟨upd (upd (upd (upd D (9 + 7 * z + 6) (-1 + 1)) 5 (nI (s + 1))) 6 (a 4 s * q 1)) (51 + 3 * s + 2) 2, fun d K => ?_, ?_, ?_, ?_⟩
            · simp only [in127, i127_0, i127_1, i127_2, i127_5, i127_6, i127_7, i127_10, i127_11, i127_12, i127_13, i127_16, i127_17, i127_18, i127_19, i127_22, i127_23, i127_24, i127_25, i127_26, i127_29, i127_30, i127_33, i127_34, i127_36, i127_38, i127_41, i127_42, i127_45, i127_46, i127_47, i127_50, i127_53, i127_54, i127_55, i127_56, i127_59, i127_60, i127_62, i127_63, i127_64, i127_67, i127_68, i127_71, i127_72, i127_73, i127_74, i127_75, i127_77, i127_78, i127_81, i127_82, i127_83, i127_84, i127_87, i127_88, i127_89, i127_90, i127_93, i127_96, i127_97, i127_98, i127_101, i127_102, i127_105, i127_106, i127_107, i127_108, i127_109, i127_111, i127_112, i127_115, i127_117, i127_120, i127_121, i127_124, i127_125, i127_126, i127_129, i127_132, i127_133, i127_134, i127_135, i127_136, i127_139, i127_140, i127_143, i127_144, i127_145, i127_146, i127_149, i127_151, i127_154, i127_155, i127_156, i127_157, i127_158, i127_159, i127_162, i127_165, i127_166, i127_169, i127_170, i127_171, i127_172, i127_173, i127_174, i127_175, i127_178, i127_180, i127_181, i127_182, i127_185, i127_186, i127_189, i127_190, i127_191, i127_192, i127_193, i127_194, i127_195, i127_196, i127_199, nl_i, nl_r, nl_0, nl_j, nb0, nb1, nbI, orv_s, konN_v, konN_n, konN_e, true_and, and_true, and_self, if_true, if_false, ite_true, ite_false, isR_ref, true_or, or_true, bI_T, bI_F, bI_Fb, i1z, Bool.false_eq_true, d_k, d_f8, d_k2, d_l2, d_a2, d_wa2, s_zoneAt, s_sheetAt, s_kindAt, nI_1, nI_p2, nI_p3, nI_p4, nI_p5, nI_p6, ib_0, ib_1, ib_2, ib_3, ib_4, ib_5, ib_6, ib_7, ib_8, iz_0, iz_1, iz_2, iz_3, iz_4, iz_5, iz_6, iz_7, iz_8, ze_0, ze_1, ze_2, ze_3, ze_4, ze_5, ze_6, ze_7, ze_8, s_held hz6, s_hold hz6, z3, i1c, nI_pred, h0, nm1, s3, s_mThick hs20, s_warmth hs20, s_become hs20, ht.1, ht.2.1, hk, u3, u4, ek.2.2.2, inbT (show 9 + 7 * z + 4 < 1451 by omega) (show 1451 < 2 ^ 31 by omega), zn_nI (show 9 + 7 * z + 4 < 2 ^ 31 by omega), inbT (show 9 + 7 * z + 3 < 1451 by omega) (show 1451 < 2 ^ 31 by omega), zn_nI (show 9 + 7 * z + 3 < 2 ^ 31 by omega), inbT (show 111 + 7 * k + 3 < 1451 by omega) (show 1451 < 2 ^ 31 by omega), zn_nI (show 111 + 7 * k + 3 < 2 ^ 31 by omega), hup', eq_false (Int32.not_lt.mpr hlo), d5, upd_nz (show ¬ (3 : Nat) = 9 + 7 * z + 6 by omega), upd_nz (show ¬ (3 : Nat) = 5 by omega), upd_nz (show ¬ (51 + 3 * s : Nat) = 9 + 7 * z + 6 by omega), upd_nz (show ¬ (51 + 3 * s : Nat) = 5 by omega), s4]
            · refine INV_st (s := s) (v := 2) hI rfl (Or.inr ⟨s, hs, rfl, ?_, upd_eq⟩) (H3_rm i5 i2 hs hz h0) (fun i g1 g2 => by dsimp only; rw [upf_ne _ _ g2, upf_ne _ _ g1]) (Or.inl rfl) v22
              have bq := i32_bd (s4c (by omega)).1
              have bt := i32_bd v1
              have c1 : (1 : Int32).toInt = 1 := rfl
              have c9 : (9 : Int32).toInt = 9 := rfl
              have c2 : (2 : Int32).toInt = 2 := rfl
              have c19 : (19 : Int32).toInt = 19 := rfl
              rw [c1, c9] at bq
              rw [c2, c19] at bt
              have p0 : (a 4 s).toInt * 1 ≤ (a 4 s).toInt * (q 1).toInt := Int.mul_le_mul_of_nonneg_left (by omega) (by omega)
              have p1 : (a 4 s).toInt * (q 1).toInt ≤ (a 4 s).toInt * 9 := Int.mul_le_mul_of_nonneg_left (by omega) (by omega)
              show 1 ≤ a 4 s * q 1
              rw [i32_le, i32_mul (by omega) (by omega), c1]
              omega
            · dsimp only
              rw [e45, upd_cm (i := 5) (j := 6) (by decide)]
              have g1 := EQ_3 (v := -1) (w := -1 + 1) s2 i2 hz6 rfl hE
              have g2 := EQ_6w (v := a 4 s * q 1) s2 i2 g1
              have g3 := EQ_5w (v := nI s) (w := nI (s + 1)) s2 i2 (nI_succ s) (Or.inr (upd_eq.trans (upf_same _ _ _).symm)) g2
              exact EQ_6 (v := 2) s2 i2 hs20 g3
            · exact kst _ _ (STA_upd (by omega) (STA_upd (by omega) (kzt _ z hz6 _ hS)))
          · have hf : moveF sa q z (f, a) = (f, a) := by
              unfold moveF toQuF
              dsimp only
              rw [if_pos hv, if_pos hq, zs, hcor, if_neg hup, if_pos hlo, if_pos hq, if_neg hq3]
            have d5 : (f 3 + 1 = 0) = False := eq_false (fun y => hq3 (by
              have := congrArg (fun w => w - 1) y
              rw [i1c] at this
              exact this.trans rfl))
            rw [hf]
            refine ⟨D, fun d K => ?_, hI, hE, hS⟩
            simp only [in127, i127_0, i127_1, i127_2, i127_5, i127_6, i127_7, i127_10, i127_11, i127_12, i127_13, i127_16, i127_17, i127_18, i127_19, i127_22, i127_23, i127_24, i127_25, i127_26, i127_29, i127_30, i127_33, i127_34, i127_36, i127_38, i127_41, i127_42, i127_45, i127_46, i127_47, i127_50, i127_53, i127_54, i127_55, i127_56, i127_59, i127_60, i127_62, i127_63, i127_64, i127_67, i127_68, i127_71, i127_72, i127_73, i127_74, i127_75, i127_77, i127_78, i127_81, i127_82, i127_83, i127_84, i127_87, i127_88, i127_89, i127_90, i127_93, i127_96, i127_97, i127_98, i127_101, i127_102, i127_105, i127_106, i127_107, i127_108, i127_109, i127_111, i127_112, i127_115, i127_117, i127_120, i127_121, i127_124, i127_125, i127_126, i127_129, i127_132, i127_133, i127_134, i127_135, i127_136, i127_139, i127_140, i127_143, i127_144, i127_145, i127_146, i127_149, i127_151, i127_154, i127_155, i127_156, i127_157, i127_158, i127_159, i127_162, i127_165, i127_166, i127_169, i127_170, i127_171, i127_172, i127_173, i127_174, i127_175, i127_178, i127_180, i127_181, i127_182, i127_185, i127_186, i127_189, i127_190, i127_191, i127_192, i127_193, i127_194, i127_195, i127_196, i127_199, nl_i, nl_r, nl_0, nl_j, nb0, nb1, nbI, orv_s, konN_v, konN_n, konN_e, true_and, and_true, and_self, if_true, if_false, ite_true, ite_false, isR_ref, true_or, or_true, bI_T, bI_F, bI_Fb, i1z, Bool.false_eq_true, d_k, d_f8, d_k2, d_l2, d_a2, d_wa2, s_zoneAt, s_sheetAt, s_kindAt, nI_1, nI_p2, nI_p3, nI_p4, nI_p5, nI_p6, ib_0, ib_1, ib_2, ib_3, ib_4, ib_5, ib_6, ib_7, ib_8, iz_0, iz_1, iz_2, iz_3, iz_4, iz_5, iz_6, iz_7, iz_8, ze_0, ze_1, ze_2, ze_3, ze_4, ze_5, ze_6, ze_7, ze_8, s_held hz6, s_hold hz6, z3, i1c, nI_pred, h0, nm1, s3, s_mThick hs20, s_warmth hs20, s_become hs20, ht.1, ht.2.1, hk, u3, u4, ek.2.2.2, inbT (show 9 + 7 * z + 4 < 1451 by omega) (show 1451 < 2 ^ 31 by omega), zn_nI (show 9 + 7 * z + 4 < 2 ^ 31 by omega), inbT (show 9 + 7 * z + 3 < 1451 by omega) (show 1451 < 2 ^ 31 by omega), zn_nI (show 9 + 7 * z + 3 < 2 ^ 31 by omega), inbT (show 111 + 7 * k + 3 < 1451 by omega) (show 1451 < 2 ^ 31 by omega), zn_nI (show 111 + 7 * k + 3 < 2 ^ 31 by omega), hup', eq_false (Int32.not_lt.mpr hlo), e3, d5]
        · have hf : moveF sa q z (f, a) = (f, a) := by
            unfold moveF
            dsimp only
            rw [if_pos hv, if_pos hq, zs, hcor, if_neg hup, if_neg hlo]
          rw [hf]
          refine ⟨D, fun d K => ?_, hI, hE, hS⟩
          simp only [in127, i127_0, i127_1, i127_2, i127_5, i127_6, i127_7, i127_10, i127_11, i127_12, i127_13, i127_16, i127_17, i127_18, i127_19, i127_22, i127_23, i127_24, i127_25, i127_26, i127_29, i127_30, i127_33, i127_34, i127_36, i127_38, i127_41, i127_42, i127_45, i127_46, i127_47, i127_50, i127_53, i127_54, i127_55, i127_56, i127_59, i127_60, i127_62, i127_63, i127_64, i127_67, i127_68, i127_71, i127_72, i127_73, i127_74, i127_75, i127_77, i127_78, i127_81, i127_82, i127_83, i127_84, i127_87, i127_88, i127_89, i127_90, i127_93, i127_96, i127_97, i127_98, i127_101, i127_102, i127_105, i127_106, i127_107, i127_108, i127_109, i127_111, i127_112, i127_115, i127_117, i127_120, i127_121, i127_124, i127_125, i127_126, i127_129, i127_132, i127_133, i127_134, i127_135, i127_136, i127_139, i127_140, i127_143, i127_144, i127_145, i127_146, i127_149, i127_151, i127_154, i127_155, i127_156, i127_157, i127_158, i127_159, i127_162, i127_165, i127_166, i127_169, i127_170, i127_171, i127_172, i127_173, i127_174, i127_175, i127_178, i127_180, i127_181, i127_182, i127_185, i127_186, i127_189, i127_190, i127_191, i127_192, i127_193, i127_194, i127_195, i127_196, i127_199, nl_i, nl_r, nl_0, nl_j, nb0, nb1, nbI, orv_s, konN_v, konN_n, konN_e, true_and, and_true, and_self, if_true, if_false, ite_true, ite_false, isR_ref, true_or, or_true, bI_T, bI_F, bI_Fb, i1z, Bool.false_eq_true, d_k, d_f8, d_k2, d_l2, d_a2, d_wa2, s_zoneAt, s_sheetAt, s_kindAt, nI_1, nI_p2, nI_p3, nI_p4, nI_p5, nI_p6, ib_0, ib_1, ib_2, ib_3, ib_4, ib_5, ib_6, ib_7, ib_8, iz_0, iz_1, iz_2, iz_3, iz_4, iz_5, iz_6, iz_7, iz_8, ze_0, ze_1, ze_2, ze_3, ze_4, ze_5, ze_6, ze_7, ze_8, s_held hz6, s_hold hz6, z3, i1c, nI_pred, h0, nm1, s3, s_mThick hs20, s_warmth hs20, s_become hs20, ht.1, ht.2.1, hk, u3, u4, ek.2.2.2, inbT (show 9 + 7 * z + 4 < 1451 by omega) (show 1451 < 2 ^ 31 by omega), zn_nI (show 9 + 7 * z + 4 < 2 ^ 31 by omega), inbT (show 9 + 7 * z + 3 < 1451 by omega) (show 1451 < 2 ^ 31 by omega), zn_nI (show 9 + 7 * z + 3 < 2 ^ 31 by omega), inbT (show 111 + 7 * k + 3 < 1451 by omega) (show 1451 < 2 ^ 31 by omega), zn_nI (show 111 + 7 * k + 3 < 2 ^ 31 by omega), hup', eq_true (Int32.not_le.mp hlo)]
    · have hq : ¬ nI z = q 0 - 1 := by
        rw [s1, nI_pred]
        exact fun y => hlast ((nI_eq (by omega) (by omega)).mp y)
      have d0 : (nI z = nI m) = False := eq_false (fun y => hlast ((nI_eq (by omega) (by omega)).mp y))
      by_cases hup : sa 5 z + 0 < a 5 s
      · have hf : moveF sa q z (f, a) = (f, spoilL (m + 1) (nI s) a) := by
          unfold moveF
          dsimp only
          rw [if_pos hv, if_neg hq, zs, if_pos hup, zq, h0]
        refine ⟨_, fun d K => ?_, spoil hf _ rfl⟩
        simp only [in127, i127_0, i127_1, i127_2, i127_5, i127_6, i127_7, i127_10, i127_11, i127_12, i127_13, i127_16, i127_17, i127_18, i127_19, i127_22, i127_23, i127_24, i127_25, i127_26, i127_29, i127_30, i127_33, i127_34, i127_36, i127_38, i127_41, i127_42, i127_45, i127_46, i127_47, i127_50, i127_53, i127_54, i127_55, i127_56, i127_59, i127_60, i127_62, i127_63, i127_64, i127_67, i127_68, i127_71, i127_72, i127_73, i127_74, i127_75, i127_77, i127_78, i127_81, i127_82, i127_83, i127_84, i127_87, i127_88, i127_89, i127_90, i127_93, i127_96, i127_97, i127_98, i127_101, i127_102, i127_105, i127_106, i127_107, i127_108, i127_109, i127_111, i127_112, i127_115, i127_117, i127_120, i127_121, i127_124, i127_125, i127_126, i127_129, i127_132, i127_133, i127_134, i127_135, i127_136, i127_139, i127_140, i127_143, i127_144, i127_145, i127_146, i127_149, i127_151, i127_154, i127_155, i127_156, i127_157, i127_158, i127_159, i127_162, i127_165, i127_166, i127_169, i127_170, i127_171, i127_172, i127_173, i127_174, i127_175, i127_178, i127_180, i127_181, i127_182, i127_185, i127_186, i127_189, i127_190, i127_191, i127_192, i127_193, i127_194, i127_195, i127_196, i127_199, nl_i, nl_r, nl_0, nl_j, nb0, nb1, nbI, orv_s, konN_v, konN_n, konN_e, true_and, and_true, and_self, if_true, if_false, ite_true, ite_false, isR_ref, true_or, or_true, bI_T, bI_F, bI_Fb, i1z, Bool.false_eq_true, d_k, d_f8, d_k2, d_l2, d_a2, d_wa2, s_zoneAt, s_sheetAt, s_kindAt, nI_1, nI_p2, nI_p3, nI_p4, nI_p5, nI_p6, ib_0, ib_1, ib_2, ib_3, ib_4, ib_5, ib_6, ib_7, ib_8, iz_0, iz_1, iz_2, iz_3, iz_4, iz_5, iz_6, iz_7, iz_8, ze_0, ze_1, ze_2, ze_3, ze_4, ze_5, ze_6, ze_7, ze_8, s_held hz6, s_hold hz6, z3, i1c, nI_pred, h0, nm1, s3, d0, s_mThick hs20, s_warmth hs20, s_become hs20, ht.1, ht.2.1, u3, u4, inbT (show 9 + 7 * z + 4 < 1451 by omega) (show 1451 < 2 ^ 31 by omega), zn_nI (show 9 + 7 * z + 4 < 2 ^ 31 by omega), inbT (show 9 + 7 * z + 3 < 1451 by omega) (show 1451 < 2 ^ 31 by omega), zn_nI (show 9 + 7 * z + 3 < 2 ^ 31 by omega), eq_false (Int32.not_le.mpr hup)]
      · have hup' : (a 5 s ≤ sa 5 z + 0) = True := eq_true (Int32.not_lt.mp hup)
        by_cases hlo : sa 4 z + 0 ≤ a 5 s
        · have hz1 : z + 1 < m + 1 := by omega
          have hz16 : z + 1 < 6 := by omega
          obtain ⟨-, -, y3⟩ := e5 (z + 1) hz1
          by_cases hnx : a 3 (z + 1) = -1
          · have hf : moveF sa q z (f, a) = (f, upf a 3 (upd (upd (a 3) z (-1)) (z + 1) (nI s))) := by
              unfold moveF toNxF
              dsimp only
              rw [if_pos hv, if_neg hq, zs, if_neg hup, if_pos hlo, if_neg hq, if_pos ⟨by rw [zq]; exact hz1, hnx⟩, h0]
            rw [hf]
            refine ⟨upd (upd D (9 + 7 * z + 6) (-1 + 1)) (9 + 7 * (z + 1) + 6) (nI (s + 1)), fun d K => ?_, ?_, ?_, ?_⟩
            · simp only [in127, i127_0, i127_1, i127_2, i127_5, i127_6, i127_7, i127_10, i127_11, i127_12, i127_13, i127_16, i127_17, i127_18, i127_19, i127_22, i127_23, i127_24, i127_25, i127_26, i127_29, i127_30, i127_33, i127_34, i127_36, i127_38, i127_41, i127_42, i127_45, i127_46, i127_47, i127_50, i127_53, i127_54, i127_55, i127_56, i127_59, i127_60, i127_62, i127_63, i127_64, i127_67, i127_68, i127_71, i127_72, i127_73, i127_74, i127_75, i127_77, i127_78, i127_81, i127_82, i127_83, i127_84, i127_87, i127_88, i127_89, i127_90, i127_93, i127_96, i127_97, i127_98, i127_101, i127_102, i127_105, i127_106, i127_107, i127_108, i127_109, i127_111, i127_112, i127_115, i127_117, i127_120, i127_121, i127_124, i127_125, i127_126, i127_129, i127_132, i127_133, i127_134, i127_135, i127_136, i127_139, i127_140, i127_143, i127_144, i127_145, i127_146, i127_149, i127_151, i127_154, i127_155, i127_156, i127_157, i127_158, i127_159, i127_162, i127_165, i127_166, i127_169, i127_170, i127_171, i127_172, i127_173, i127_174, i127_175, i127_178, i127_180, i127_181, i127_182, i127_185, i127_186, i127_189, i127_190, i127_191, i127_192, i127_193, i127_194, i127_195, i127_196, i127_199, nl_i, nl_r, nl_0, nl_j, nb0, nb1, nbI, orv_s, konN_v, konN_n, konN_e, true_and, and_true, and_self, if_true, if_false, ite_true, ite_false, isR_ref, true_or, or_true, bI_T, bI_F, bI_Fb, i1z, Bool.false_eq_true, d_k, d_f8, d_k2, d_l2, d_a2, d_wa2, s_zoneAt, s_sheetAt, s_kindAt, nI_1, nI_p2, nI_p3, nI_p4, nI_p5, nI_p6, ib_0, ib_1, ib_2, ib_3, ib_4, ib_5, ib_6, ib_7, ib_8, iz_0, iz_1, iz_2, iz_3, iz_4, iz_5, iz_6, iz_7, iz_8, ze_0, ze_1, ze_2, ze_3, ze_4, ze_5, ze_6, ze_7, ze_8, s_held hz6, s_held hz16, s_hold hz6, s_hold hz16, z3, y3, i1c, nI_pred, h0, hnx, nm1, s3, d0, s_mThick hs20, s_warmth hs20, s_become hs20, ht.1, ht.2.1, u3, u4, inbT (show 9 + 7 * z + 4 < 1451 by omega) (show 1451 < 2 ^ 31 by omega), zn_nI (show 9 + 7 * z + 4 < 2 ^ 31 by omega), inbT (show 9 + 7 * z + 3 < 1451 by omega) (show 1451 < 2 ^ 31 by omega), zn_nI (show 9 + 7 * z + 3 < 2 ^ 31 by omega), hup', eq_false (Int32.not_lt.mpr hlo)]
            · exact INV_st (s := s) (v := 2) hI rfl i4 (H3_mv i5 i2 hs hz hz1 h0 h6 hnx) (fun i g1 g2 => by dsimp only; rw [upf_ne _ _ g1]) (Or.inr rfl) v22
            · have g1 := EQ_3 (v := -1) (w := -1 + 1) s2 i2 hz6 rfl hE
              have g2 := EQ_3 (v := nI s) (w := nI (s + 1)) s2 i2 hz16 (nI_succ s) g1
              rw [upf_same, upf_upf] at g2
              exact g2
            · exact kzt _ (z + 1) hz16 _ (kzt _ z hz6 _ hS)
          · have hf : moveF sa q z (f, a) = (f, a) := by
              unfold moveF toNxF
              dsimp only
              rw [if_pos hv, if_neg hq, zs, if_neg hup, if_pos hlo, if_neg hq, if_neg (fun w => hnx w.2)]
            rw [hf]
            refine ⟨D, fun d K => ?_, hI, hE, hS⟩
            simp only [in127, i127_0, i127_1, i127_2, i127_5, i127_6, i127_7, i127_10, i127_11, i127_12, i127_13, i127_16, i127_17, i127_18, i127_19, i127_22, i127_23, i127_24, i127_25, i127_26, i127_29, i127_30, i127_33, i127_34, i127_36, i127_38, i127_41, i127_42, i127_45, i127_46, i127_47, i127_50, i127_53, i127_54, i127_55, i127_56, i127_59, i127_60, i127_62, i127_63, i127_64, i127_67, i127_68, i127_71, i127_72, i127_73, i127_74, i127_75, i127_77, i127_78, i127_81, i127_82, i127_83, i127_84, i127_87, i127_88, i127_89, i127_90, i127_93, i127_96, i127_97, i127_98, i127_101, i127_102, i127_105, i127_106, i127_107, i127_108, i127_109, i127_111, i127_112, i127_115, i127_117, i127_120, i127_121, i127_124, i127_125, i127_126, i127_129, i127_132, i127_133, i127_134, i127_135, i127_136, i127_139, i127_140, i127_143, i127_144, i127_145, i127_146, i127_149, i127_151, i127_154, i127_155, i127_156, i127_157, i127_158, i127_159, i127_162, i127_165, i127_166, i127_169, i127_170, i127_171, i127_172, i127_173, i127_174, i127_175, i127_178, i127_180, i127_181, i127_182, i127_185, i127_186, i127_189, i127_190, i127_191, i127_192, i127_193, i127_194, i127_195, i127_196, i127_199, nl_i, nl_r, nl_0, nl_j, nb0, nb1, nbI, orv_s, konN_v, konN_n, konN_e, true_and, and_true, and_self, if_true, if_false, ite_true, ite_false, isR_ref, true_or, or_true, bI_T, bI_F, bI_Fb, i1z, Bool.false_eq_true, d_k, d_f8, d_k2, d_l2, d_a2, d_wa2, s_zoneAt, s_sheetAt, s_kindAt, nI_1, nI_p2, nI_p3, nI_p4, nI_p5, nI_p6, ib_0, ib_1, ib_2, ib_3, ib_4, ib_5, ib_6, ib_7, ib_8, iz_0, iz_1, iz_2, iz_3, iz_4, iz_5, iz_6, iz_7, iz_8, ze_0, ze_1, ze_2, ze_3, ze_4, ze_5, ze_6, ze_7, ze_8, s_held hz6, s_held hz16, s_hold hz6, s_hold hz16, z3, y3, i1c, nI_pred, h0, hnx, nm1, s3, d0, s_mThick hs20, s_warmth hs20, s_become hs20, ht.1, ht.2.1, u3, u4, inbT (show 9 + 7 * z + 4 < 1451 by omega) (show 1451 < 2 ^ 31 by omega), zn_nI (show 9 + 7 * z + 4 < 2 ^ 31 by omega), inbT (show 9 + 7 * z + 3 < 1451 by omega) (show 1451 < 2 ^ 31 by omega), zn_nI (show 9 + 7 * z + 3 < 2 ^ 31 by omega), hup', eq_false (Int32.not_lt.mpr hlo)]
        · have hf : moveF sa q z (f, a) = (f, a) := by
            unfold moveF
            dsimp only
            rw [if_pos hv, if_neg hq, zs, if_neg hup, if_neg hlo]
          rw [hf]
          refine ⟨D, fun d K => ?_, hI, hE, hS⟩
          simp only [in127, i127_0, i127_1, i127_2, i127_5, i127_6, i127_7, i127_10, i127_11, i127_12, i127_13, i127_16, i127_17, i127_18, i127_19, i127_22, i127_23, i127_24, i127_25, i127_26, i127_29, i127_30, i127_33, i127_34, i127_36, i127_38, i127_41, i127_42, i127_45, i127_46, i127_47, i127_50, i127_53, i127_54, i127_55, i127_56, i127_59, i127_60, i127_62, i127_63, i127_64, i127_67, i127_68, i127_71, i127_72, i127_73, i127_74, i127_75, i127_77, i127_78, i127_81, i127_82, i127_83, i127_84, i127_87, i127_88, i127_89, i127_90, i127_93, i127_96, i127_97, i127_98, i127_101, i127_102, i127_105, i127_106, i127_107, i127_108, i127_109, i127_111, i127_112, i127_115, i127_117, i127_120, i127_121, i127_124, i127_125, i127_126, i127_129, i127_132, i127_133, i127_134, i127_135, i127_136, i127_139, i127_140, i127_143, i127_144, i127_145, i127_146, i127_149, i127_151, i127_154, i127_155, i127_156, i127_157, i127_158, i127_159, i127_162, i127_165, i127_166, i127_169, i127_170, i127_171, i127_172, i127_173, i127_174, i127_175, i127_178, i127_180, i127_181, i127_182, i127_185, i127_186, i127_189, i127_190, i127_191, i127_192, i127_193, i127_194, i127_195, i127_196, i127_199, nl_i, nl_r, nl_0, nl_j, nb0, nb1, nbI, orv_s, konN_v, konN_n, konN_e, true_and, and_true, and_self, if_true, if_false, ite_true, ite_false, isR_ref, true_or, or_true, bI_T, bI_F, bI_Fb, i1z, Bool.false_eq_true, d_k, d_f8, d_k2, d_l2, d_a2, d_wa2, s_zoneAt, s_sheetAt, s_kindAt, nI_1, nI_p2, nI_p3, nI_p4, nI_p5, nI_p6, ib_0, ib_1, ib_2, ib_3, ib_4, ib_5, ib_6, ib_7, ib_8, iz_0, iz_1, iz_2, iz_3, iz_4, iz_5, iz_6, iz_7, iz_8, ze_0, ze_1, ze_2, ze_3, ze_4, ze_5, ze_6, ze_7, ze_8, s_held hz6, s_hold hz6, z3, i1c, nI_pred, h0, nm1, s3, d0, s_mThick hs20, s_warmth hs20, s_become hs20, ht.1, ht.2.1, u3, u4, inbT (show 9 + 7 * z + 4 < 1451 by omega) (show 1451 < 2 ^ 31 by omega), zn_nI (show 9 + 7 * z + 4 < 2 ^ 31 by omega), inbT (show 9 + 7 * z + 3 < 1451 by omega) (show 1451 < 2 ^ 31 by omega), zn_nI (show 9 + 7 * z + 3 < 2 ^ 31 by omega), hup', eq_true (Int32.not_le.mp hlo)]
end MV
