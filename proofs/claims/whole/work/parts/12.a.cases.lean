/-! THE LAW: its cases -/
section LW
variable {c : HP} {L i : Nat} {xs : Nat → Int32} {K : AO → AH → Prop} {d : Nat}
theorem mk140 : hk (mH c) 140 = 7 := k_140
theorem isR_s : (isR scrV = true) = True := eq_true rfl
theorem mf140 : hF (mH c) 140 0 = .int (c.2.2.2.1 140 0) := f_140_0
theorem lgc {x : Int64} : lg_cmp x x = 0 := by simp [lg_cmp]
/-- from a case's first instruction to the counter -/
def LC (L : Nat) (xs : Nat → Int32) (i pc : Nat) (c : HP) : Prop := ∃ c', GN c c' ∧ ∀ d Q l5 l6, ∃ l5' l6', Ev (d + 41) 182 pc [some scrV, some (.ref 0), some (.ref 140), some (.ref 155), some (.int (nI i)), l5, l6] [] (mH c) Q = Ev (d + 41) 182 1391 [some scrV, some (.ref 0), some (.ref 140), some (.ref 155), some (.int (nI i)), l5', l6'] [] (mH c') Q
theorem lc_0 (hG : GRc c) (hX1 : hX c.1 = (L, xs)) (hi : i + 6 ≤ L) (hL : L < 2 ^ 31) : LC L xs i 164 c := by
  obtain ⟨h, T, U, S, A, J, G⟩ := c
  have hx1 : ∀ c1 : HP, hX c1.1 = (L, xs) → (hX (mH c1)).1 = L ∧ (hX (mH c1)).2 = xs := fun c1 e => ⟨(congrArg Prod.fst e : _), (congrArg Prod.snd e : _)⟩
  obtain ⟨v, c1, c2, g, r1, r2, hxc⟩ := o_append (U := U) (J := J) (w0 := xs (i + 1)) (w1 := xs (i + 2)) (w2 := xs (i + 3)) (w3 := xs (i + 4)) (w4 := xs (i + 5)) hG
  obtain ⟨p1, p2⟩ := hx1 _ hX1
  obtain ⟨xc1, xc2⟩ := hx1 c1 (hxc.trans hX1)
  refine ⟨c2, g, fun d Q l5 l6 => ⟨l5, l6, ?_⟩⟩
  simp only [i182_164, i182_165, i182_166, i182_168, i182_169, i182_170, i182_171, i182_172, i182_174, i182_175, i182_176, i182_177, i182_178, i182_180, i182_181, i182_182, i182_183, i182_184, i182_186, i182_187, i182_188, i182_189, i182_190, i182_192, i182_193, i182_194, i182_195, i182_198, i182_199, i182_200, i182_202, i182_203, i182_204, i182_205, i182_206, i182_208, i182_209, i182_210, i182_211, i182_212, i182_214, i182_215, i182_216, i182_217, i182_218, i182_220, i182_221, i182_222, i182_223, i182_224, i182_226, i182_227, i182_228, i182_229, i182_232, i182_235, i182_236, nl_i, nl_r, nl_0, nl_j, nb0, nb1, nbI, orv_s, konN_v, konN_n, konN_e, true_and, and_true, and_self, if_true, if_false, ite_true, ite_false, isR_ref, true_or, or_true, bI_T, bI_F, bI_Fb, i1z, Bool.false_eq_true, mk0, mk140, mk155, ml155, mj155, isR_s, inbT (show i + 1 < L by omega) hL, zn_nI (show i + 1 < 2 ^ 31 by omega), inbT (show i + 2 < L by omega) hL, zn_nI (show i + 2 < 2 ^ 31 by omega), inbT (show i + 3 < L by omega) hL, zn_nI (show i + 3 < 2 ^ 31 by omega), inbT (show i + 4 < L by omega) hL, zn_nI (show i + 4 < 2 ^ 31 by omega), inbT (show i + 5 < L by omega) hL, zn_nI (show i + 5 < 2 ^ 31 by omega), nI_1, nI_p2, nI_p3, nI_p4, nI_p5, p1, p2, xc1, xc2, r1, r2]
theorem lc_1 (hG : GRc c) (hX1 : hX c.1 = (L, xs)) (hi : i + 6 ≤ L) (hL : L < 2 ^ 31) : LC L xs i 237 c := by
  obtain ⟨h, T, U, S, A, J, G⟩ := c
  have hx1 : ∀ c1 : HP, hX c1.1 = (L, xs) → (hX (mH c1)).1 = L ∧ (hX (mH c1)).2 = xs := fun c1 e => ⟨(congrArg Prod.fst e : _), (congrArg Prod.snd e : _)⟩
  obtain ⟨k, b, c1, c2, g, r1, r2, hk, hb, hxc⟩ := o_load (U := U) (J := J) (x := xs (i + 1)) hG
  have r1 : ∀ d K, EvM (d + 40) 165 [.ref 0, .int (xs (i + 1)), .ref 155] (mH (h, T, U, S, A, J, G)) K = K (.inl (some (.int k))) (mH c1) := r1
  obtain ⟨p1, p2⟩ := hx1 _ hX1
  obtain ⟨xc1, xc2⟩ := hx1 c1 (hxc.trans hX1)
  refine ⟨c2, g, fun d Q l5 l6 => ⟨some (.int k), some (.int b), ?_⟩⟩
  by_cases k0 : k = 0
  · have hb := hb k0
    simp only [i182_237, i182_238, i182_239, i182_241, i182_242, i182_243, i182_244, i182_245, i182_248, i182_250, i182_251, i182_252, i182_254, i182_255, i182_256, i182_257, i182_260, i182_262, i182_263, i182_266, i182_268, i182_271, i182_272, i182_273, i182_275, i182_278, i182_279, i182_280, i182_281, i182_283, i182_284, i182_285, i182_288, i182_289, i182_290, in88, i88_0, i88_1, i88_4, nl_i, nl_r, nl_0, nl_j, nb0, nb1, nbI, orv_s, konN_v, konN_n, konN_e, true_and, and_true, and_self, if_true, if_false, ite_true, ite_false, isR_ref, true_or, or_true, bI_T, bI_F, bI_Fb, i1z, Bool.false_eq_true, mk0, mk140, mk155, ml155, mj155, isR_s, inbT (show i + 1 < L by omega) hL, zn_nI (show i + 1 < 2 ^ 31 by omega), nI_1, nI_p2, nI_p3, nI_p4, nI_p5, p1, p2, xc1, xc2, r1, r2, mf140, hk, k0, iz_0, inb01, hb, lgc]
  · simp only [i182_237, i182_238, i182_239, i182_241, i182_242, i182_243, i182_244, i182_245, i182_248, i182_250, i182_251, i182_252, i182_254, i182_255, i182_256, i182_257, i182_260, i182_262, i182_263, i182_266, i182_268, i182_271, i182_272, i182_273, i182_275, i182_278, i182_279, i182_280, i182_281, i182_283, i182_284, i182_285, i182_288, i182_289, i182_290, in88, i88_0, i88_1, i88_4, nl_i, nl_r, nl_0, nl_j, nb0, nb1, nbI, orv_s, konN_v, konN_n, konN_e, true_and, and_true, and_self, if_true, if_false, ite_true, ite_false, isR_ref, true_or, or_true, bI_T, bI_F, bI_Fb, i1z, Bool.false_eq_true, mk0, mk140, mk155, ml155, mj155, isR_s, inbT (show i + 1 < L by omega) hL, zn_nI (show i + 1 < 2 ^ 31 by omega), nI_1, nI_p2, nI_p3, nI_p4, nI_p5, p1, p2, xc1, xc2, r1, r2, mf140, hk, k0]
theorem lc_2 (hG : GRc c) (hX1 : hX c.1 = (L, xs)) (hi : i + 6 ≤ L) (hL : L < 2 ^ 31) : LC L xs i 293 c := by
  obtain ⟨h, T, U, S, A, J, G⟩ := c
  obtain ⟨v, c1, c2, g, r1, r2⟩ := o_errorOffset (U := U) (J := J)  hG
  refine ⟨c2, g, fun d Q l5 l6 => ⟨l5, l6, ?_⟩⟩
  simp only [i182_293, i182_294, i182_297, i182_298, i182_301, i182_304, i182_305, nl_i, nl_r, nl_0, nl_j, nb0, nb1, nbI, orv_s, konN_v, konN_n, konN_e, true_and, and_true, and_self, if_true, if_false, ite_true, ite_false, isR_ref, true_or, or_true, bI_T, bI_F, bI_Fb, i1z, Bool.false_eq_true, mk0, mk140, mk155, ml155, mj155, isR_s, r1, r2]
theorem lc_3 (hG : GRc c) (hX1 : hX c.1 = (L, xs)) (hi : i + 6 ≤ L) (hL : L < 2 ^ 31) : LC L xs i 306 c := by
  obtain ⟨h, T, U, S, A, J, G⟩ := c
  obtain ⟨v, c1, c2, g, r1, r2⟩ := o_zoneCount (U := U) (J := J)  hG
  refine ⟨c2, g, fun d Q l5 l6 => ⟨l5, l6, ?_⟩⟩
  simp only [i182_306, i182_307, i182_310, i182_311, i182_314, i182_317, i182_318, nl_i, nl_r, nl_0, nl_j, nb0, nb1, nbI, orv_s, konN_v, konN_n, konN_e, true_and, and_true, and_self, if_true, if_false, ite_true, ite_false, isR_ref, true_or, or_true, bI_T, bI_F, bI_Fb, i1z, Bool.false_eq_true, mk0, mk140, mk155, ml155, mj155, isR_s, r1, r2]
theorem lc_4 (hG : GRc c) (hX1 : hX c.1 = (L, xs)) (hi : i + 6 ≤ L) (hL : L < 2 ^ 31) : LC L xs i 319 c := by
  obtain ⟨h, T, U, S, A, J, G⟩ := c
  obtain ⟨v, c1, c2, g, r1, r2⟩ := o_sheetCount (U := U) (J := J)  hG
  refine ⟨c2, g, fun d Q l5 l6 => ⟨l5, l6, ?_⟩⟩
  simp only [i182_319, i182_320, i182_323, i182_324, i182_327, i182_330, i182_331, nl_i, nl_r, nl_0, nl_j, nb0, nb1, nbI, orv_s, konN_v, konN_n, konN_e, true_and, and_true, and_self, if_true, if_false, ite_true, ite_false, isR_ref, true_or, or_true, bI_T, bI_F, bI_Fb, i1z, Bool.false_eq_true, mk0, mk140, mk155, ml155, mj155, isR_s, r1, r2]
theorem lc_5 (hG : GRc c) (hX1 : hX c.1 = (L, xs)) (hi : i + 6 ≤ L) (hL : L < 2 ^ 31) : LC L xs i 332 c := by
  obtain ⟨h, T, U, S, A, J, G⟩ := c
  obtain ⟨v, c1, c2, g, r1, r2⟩ := o_clock (U := U) (J := J)  hG
  refine ⟨c2, g, fun d Q l5 l6 => ⟨l5, l6, ?_⟩⟩
  simp only [i182_332, i182_333, i182_336, i182_337, i182_340, i182_343, i182_344, nl_i, nl_r, nl_0, nl_j, nb0, nb1, nbI, orv_s, konN_v, konN_n, konN_e, true_and, and_true, and_self, if_true, if_false, ite_true, ite_false, isR_ref, true_or, or_true, bI_T, bI_F, bI_Fb, i1z, Bool.false_eq_true, mk0, mk140, mk155, ml155, mj155, isR_s, r1, r2]
theorem lc_6 (hG : GRc c) (hX1 : hX c.1 = (L, xs)) (hi : i + 6 ≤ L) (hL : L < 2 ^ 31) : LC L xs i 345 c := by
  obtain ⟨h, T, U, S, A, J, G⟩ := c
  have hx1 : ∀ c1 : HP, hX c1.1 = (L, xs) → (hX (mH c1)).1 = L ∧ (hX (mH c1)).2 = xs := fun c1 e => ⟨(congrArg Prod.fst e : _), (congrArg Prod.snd e : _)⟩
  obtain ⟨k, b, c1, c2, g, r1, r2, hk, hb, hxc⟩ := o_zone (U := U) (J := J) (x := xs (i + 1)) (y := xs (i + 2)) hG
  have r1 : ∀ d K, EvM (d + 40) 166 [.ref 0, .int (xs (i + 1)), .int (xs (i + 2)), .ref 155] (mH (h, T, U, S, A, J, G)) K = K (.inl (some (.int k))) (mH c1) := r1
  obtain ⟨p1, p2⟩ := hx1 _ hX1
  obtain ⟨xc1, xc2⟩ := hx1 c1 (hxc.trans hX1)
  refine ⟨c2, g, fun d Q l5 l6 => ⟨some (.int k), some (.int b), ?_⟩⟩
  by_cases k0 : k = 0
  · have hb := hb k0
    simp only [i182_345, i182_346, i182_347, i182_349, i182_350, i182_351, i182_352, i182_353, i182_355, i182_356, i182_357, i182_358, i182_359, i182_362, i182_364, i182_365, i182_366, i182_368, i182_369, i182_370, i182_371, i182_372, i182_374, i182_375, i182_376, i182_377, i182_380, i182_382, i182_383, i182_386, i182_388, i182_391, i182_392, i182_393, i182_395, i182_398, i182_399, i182_400, i182_401, i182_403, i182_404, i182_405, i182_408, i182_409, i182_410, in88, i88_0, i88_1, i88_4, nl_i, nl_r, nl_0, nl_j, nb0, nb1, nbI, orv_s, konN_v, konN_n, konN_e, true_and, and_true, and_self, if_true, if_false, ite_true, ite_false, isR_ref, true_or, or_true, bI_T, bI_F, bI_Fb, i1z, Bool.false_eq_true, mk0, mk140, mk155, ml155, mj155, isR_s, inbT (show i + 1 < L by omega) hL, zn_nI (show i + 1 < 2 ^ 31 by omega), inbT (show i + 2 < L by omega) hL, zn_nI (show i + 2 < 2 ^ 31 by omega), nI_1, nI_p2, nI_p3, nI_p4, nI_p5, p1, p2, xc1, xc2, r1, r2, mf140, hk, k0, iz_0, inb01, hb, lgc]
  · simp only [i182_345, i182_346, i182_347, i182_349, i182_350, i182_351, i182_352, i182_353, i182_355, i182_356, i182_357, i182_358, i182_359, i182_362, i182_364, i182_365, i182_366, i182_368, i182_369, i182_370, i182_371, i182_372, i182_374, i182_375, i182_376, i182_377, i182_380, i182_382, i182_383, i182_386, i182_388, i182_391, i182_392, i182_393, i182_395, i182_398, i182_399, i182_400, i182_401, i182_403, i182_404, i182_405, i182_408, i182_409, i182_410, in88, i88_0, i88_1, i88_4, nl_i, nl_r, nl_0, nl_j, nb0, nb1, nbI, orv_s, konN_v, konN_n, konN_e, true_and, and_true, and_self, if_true, if_false, ite_true, ite_false, isR_ref, true_or, or_true, bI_T, bI_F, bI_Fb, i1z, Bool.false_eq_true, mk0, mk140, mk155, ml155, mj155, isR_s, inbT (show i + 1 < L by omega) hL, zn_nI (show i + 1 < 2 ^ 31 by omega), inbT (show i + 2 < L by omega) hL, zn_nI (show i + 2 < 2 ^ 31 by omega), nI_1, nI_p2, nI_p3, nI_p4, nI_p5, p1, p2, xc1, xc2, r1, r2, mf140, hk, k0]
theorem lc_7 (hG : GRc c) (hX1 : hX c.1 = (L, xs)) (hi : i + 6 ≤ L) (hL : L < 2 ^ 31) : LC L xs i 413 c := by
  obtain ⟨h, T, U, S, A, J, G⟩ := c
  have hx1 : ∀ c1 : HP, hX c1.1 = (L, xs) → (hX (mH c1)).1 = L ∧ (hX (mH c1)).2 = xs := fun c1 e => ⟨(congrArg Prod.fst e : _), (congrArg Prod.snd e : _)⟩
  obtain ⟨k, b, c1, c2, g, r1, r2, hk, hb, hxc⟩ := o_thickness (U := U) (J := J) (x := xs (i + 1)) hG
  have r1 : ∀ d K, EvM (d + 40) 167 [.ref 0, .int (xs (i + 1)), .ref 155] (mH (h, T, U, S, A, J, G)) K = K (.inl (some (.int k))) (mH c1) := r1
  obtain ⟨p1, p2⟩ := hx1 _ hX1
  obtain ⟨xc1, xc2⟩ := hx1 c1 (hxc.trans hX1)
  refine ⟨c2, g, fun d Q l5 l6 => ⟨some (.int k), some (.int b), ?_⟩⟩
  by_cases k0 : k = 0
  · have hb := hb k0
    simp only [i182_413, i182_414, i182_415, i182_417, i182_418, i182_419, i182_420, i182_421, i182_424, i182_426, i182_427, i182_428, i182_430, i182_431, i182_432, i182_433, i182_436, i182_438, i182_439, i182_442, i182_444, i182_447, i182_448, i182_449, i182_451, i182_454, i182_455, i182_456, i182_457, i182_459, i182_460, i182_461, i182_464, i182_465, i182_466, in88, i88_0, i88_1, i88_4, nl_i, nl_r, nl_0, nl_j, nb0, nb1, nbI, orv_s, konN_v, konN_n, konN_e, true_and, and_true, and_self, if_true, if_false, ite_true, ite_false, isR_ref, true_or, or_true, bI_T, bI_F, bI_Fb, i1z, Bool.false_eq_true, mk0, mk140, mk155, ml155, mj155, isR_s, inbT (show i + 1 < L by omega) hL, zn_nI (show i + 1 < 2 ^ 31 by omega), nI_1, nI_p2, nI_p3, nI_p4, nI_p5, p1, p2, xc1, xc2, r1, r2, mf140, hk, k0, iz_0, inb01, hb, lgc]
  · simp only [i182_413, i182_414, i182_415, i182_417, i182_418, i182_419, i182_420, i182_421, i182_424, i182_426, i182_427, i182_428, i182_430, i182_431, i182_432, i182_433, i182_436, i182_438, i182_439, i182_442, i182_444, i182_447, i182_448, i182_449, i182_451, i182_454, i182_455, i182_456, i182_457, i182_459, i182_460, i182_461, i182_464, i182_465, i182_466, in88, i88_0, i88_1, i88_4, nl_i, nl_r, nl_0, nl_j, nb0, nb1, nbI, orv_s, konN_v, konN_n, konN_e, true_and, and_true, and_self, if_true, if_false, ite_true, ite_false, isR_ref, true_or, or_true, bI_T, bI_F, bI_Fb, i1z, Bool.false_eq_true, mk0, mk140, mk155, ml155, mj155, isR_s, inbT (show i + 1 < L by omega) hL, zn_nI (show i + 1 < 2 ^ 31 by omega), nI_1, nI_p2, nI_p3, nI_p4, nI_p5, p1, p2, xc1, xc2, r1, r2, mf140, hk, k0]
theorem lc_8 (hG : GRc c) (hX1 : hX c.1 = (L, xs)) (hi : i + 6 ≤ L) (hL : L < 2 ^ 31) : LC L xs i 469 c := by
  obtain ⟨h, T, U, S, A, J, G⟩ := c
  have hx1 : ∀ c1 : HP, hX c1.1 = (L, xs) → (hX (mH c1)).1 = L ∧ (hX (mH c1)).2 = xs := fun c1 e => ⟨(congrArg Prod.fst e : _), (congrArg Prod.snd e : _)⟩
  obtain ⟨k, b, c1, c2, g, r1, r2, hk, hb, hxc⟩ := o_temperature (U := U) (J := J) (x := xs (i + 1)) hG
  have r1 : ∀ d K, EvM (d + 40) 168 [.ref 0, .int (xs (i + 1)), .ref 155] (mH (h, T, U, S, A, J, G)) K = K (.inl (some (.int k))) (mH c1) := r1
  obtain ⟨p1, p2⟩ := hx1 _ hX1
  obtain ⟨xc1, xc2⟩ := hx1 c1 (hxc.trans hX1)
  refine ⟨c2, g, fun d Q l5 l6 => ⟨some (.int k), some (.int b), ?_⟩⟩
  by_cases k0 : k = 0
  · have hb := hb k0
    simp only [i182_469, i182_470, i182_471, i182_473, i182_474, i182_475, i182_476, i182_477, i182_480, i182_482, i182_483, i182_484, i182_486, i182_487, i182_488, i182_489, i182_492, i182_494, i182_495, i182_498, i182_500, i182_503, i182_504, i182_505, i182_507, i182_510, i182_511, i182_512, i182_513, i182_515, i182_516, i182_517, i182_520, i182_521, i182_522, in88, i88_0, i88_1, i88_4, nl_i, nl_r, nl_0, nl_j, nb0, nb1, nbI, orv_s, konN_v, konN_n, konN_e, true_and, and_true, and_self, if_true, if_false, ite_true, ite_false, isR_ref, true_or, or_true, bI_T, bI_F, bI_Fb, i1z, Bool.false_eq_true, mk0, mk140, mk155, ml155, mj155, isR_s, inbT (show i + 1 < L by omega) hL, zn_nI (show i + 1 < 2 ^ 31 by omega), nI_1, nI_p2, nI_p3, nI_p4, nI_p5, p1, p2, xc1, xc2, r1, r2, mf140, hk, k0, iz_0, inb01, hb, lgc]
  · simp only [i182_469, i182_470, i182_471, i182_473, i182_474, i182_475, i182_476, i182_477, i182_480, i182_482, i182_483, i182_484, i182_486, i182_487, i182_488, i182_489, i182_492, i182_494, i182_495, i182_498, i182_500, i182_503, i182_504, i182_505, i182_507, i182_510, i182_511, i182_512, i182_513, i182_515, i182_516, i182_517, i182_520, i182_521, i182_522, in88, i88_0, i88_1, i88_4, nl_i, nl_r, nl_0, nl_j, nb0, nb1, nbI, orv_s, konN_v, konN_n, konN_e, true_and, and_true, and_self, if_true, if_false, ite_true, ite_false, isR_ref, true_or, or_true, bI_T, bI_F, bI_Fb, i1z, Bool.false_eq_true, mk0, mk140, mk155, ml155, mj155, isR_s, inbT (show i + 1 < L by omega) hL, zn_nI (show i + 1 < 2 ^ 31 by omega), nI_1, nI_p2, nI_p3, nI_p4, nI_p5, p1, p2, xc1, xc2, r1, r2, mf140, hk, k0]
theorem lc_9 (hG : GRc c) (hX1 : hX c.1 = (L, xs)) (hi : i + 6 ≤ L) (hL : L < 2 ^ 31) : LC L xs i 525 c := by
  obtain ⟨h, T, U, S, A, J, G⟩ := c
  have hx1 : ∀ c1 : HP, hX c1.1 = (L, xs) → (hX (mH c1)).1 = L ∧ (hX (mH c1)).2 = xs := fun c1 e => ⟨(congrArg Prod.fst e : _), (congrArg Prod.snd e : _)⟩
  obtain ⟨k, b, c1, c2, g, r1, r2, hk, hb, hxc⟩ := o_state (U := U) (J := J) (x := xs (i + 1)) hG
  have r1 : ∀ d K, EvM (d + 40) 169 [.ref 0, .int (xs (i + 1)), .ref 155] (mH (h, T, U, S, A, J, G)) K = K (.inl (some (.int k))) (mH c1) := r1
  obtain ⟨p1, p2⟩ := hx1 _ hX1
  obtain ⟨xc1, xc2⟩ := hx1 c1 (hxc.trans hX1)
  refine ⟨c2, g, fun d Q l5 l6 => ⟨some (.int k), some (.int b), ?_⟩⟩
  by_cases k0 : k = 0
  · have hb := hb k0
    simp only [i182_525, i182_526, i182_527, i182_529, i182_530, i182_531, i182_532, i182_533, i182_536, i182_538, i182_539, i182_540, i182_542, i182_543, i182_544, i182_545, i182_548, i182_550, i182_551, i182_554, i182_556, i182_559, i182_560, i182_561, i182_563, i182_566, i182_567, i182_568, i182_569, i182_571, i182_572, i182_573, i182_576, i182_577, i182_578, in88, i88_0, i88_1, i88_4, nl_i, nl_r, nl_0, nl_j, nb0, nb1, nbI, orv_s, konN_v, konN_n, konN_e, true_and, and_true, and_self, if_true, if_false, ite_true, ite_false, isR_ref, true_or, or_true, bI_T, bI_F, bI_Fb, i1z, Bool.false_eq_true, mk0, mk140, mk155, ml155, mj155, isR_s, inbT (show i + 1 < L by omega) hL, zn_nI (show i + 1 < 2 ^ 31 by omega), nI_1, nI_p2, nI_p3, nI_p4, nI_p5, p1, p2, xc1, xc2, r1, r2, mf140, hk, k0, iz_0, inb01, hb, lgc]
  · simp only [i182_525, i182_526, i182_527, i182_529, i182_530, i182_531, i182_532, i182_533, i182_536, i182_538, i182_539, i182_540, i182_542, i182_543, i182_544, i182_545, i182_548, i182_550, i182_551, i182_554, i182_556, i182_559, i182_560, i182_561, i182_563, i182_566, i182_567, i182_568, i182_569, i182_571, i182_572, i182_573, i182_576, i182_577, i182_578, in88, i88_0, i88_1, i88_4, nl_i, nl_r, nl_0, nl_j, nb0, nb1, nbI, orv_s, konN_v, konN_n, konN_e, true_and, and_true, and_self, if_true, if_false, ite_true, ite_false, isR_ref, true_or, or_true, bI_T, bI_F, bI_Fb, i1z, Bool.false_eq_true, mk0, mk140, mk155, ml155, mj155, isR_s, inbT (show i + 1 < L by omega) hL, zn_nI (show i + 1 < 2 ^ 31 by omega), nI_1, nI_p2, nI_p3, nI_p4, nI_p5, p1, p2, xc1, xc2, r1, r2, mf140, hk, k0]
theorem lc_10 (hG : GRc c) (hX1 : hX c.1 = (L, xs)) (hi : i + 6 ≤ L) (hL : L < 2 ^ 31) : LC L xs i 581 c := by
  obtain ⟨h, T, U, S, A, J, G⟩ := c
  obtain ⟨v, c1, c2, g, r1, r2⟩ := o_quenched (U := U) (J := J)  hG
  refine ⟨c2, g, fun d Q l5 l6 => ⟨l5, l6, ?_⟩⟩
  simp only [i182_581, i182_582, i182_585, i182_586, i182_589, i182_592, i182_593, nl_i, nl_r, nl_0, nl_j, nb0, nb1, nbI, orv_s, konN_v, konN_n, konN_e, true_and, and_true, and_self, if_true, if_false, ite_true, ite_false, isR_ref, true_or, or_true, bI_T, bI_F, bI_Fb, i1z, Bool.false_eq_true, mk0, mk140, mk155, ml155, mj155, isR_s, r1, r2]
theorem lc_11 (hG : GRc c) (hX1 : hX c.1 = (L, xs)) (hi : i + 6 ≤ L) (hL : L < 2 ^ 31) : LC L xs i 594 c := by
  obtain ⟨h, T, U, S, A, J, G⟩ := c
  obtain ⟨v, c1, c2, g, r1, r2⟩ := o_quenchLeft (U := U) (J := J)  hG
  refine ⟨c2, g, fun d Q l5 l6 => ⟨l5, l6, ?_⟩⟩
  simp only [i182_594, i182_595, i182_598, i182_599, i182_602, i182_605, i182_606, nl_i, nl_r, nl_0, nl_j, nb0, nb1, nbI, orv_s, konN_v, konN_n, konN_e, true_and, and_true, and_self, if_true, if_false, ite_true, ite_false, isR_ref, true_or, or_true, bI_T, bI_F, bI_Fb, i1z, Bool.false_eq_true, mk0, mk140, mk155, ml155, mj155, isR_s, r1, r2]
theorem lc_12 (hG : GRc c) (hX1 : hX c.1 = (L, xs)) (hi : i + 6 ≤ L) (hL : L < 2 ^ 31) : LC L xs i 607 c := by
  obtain ⟨h, T, U, S, A, J, G⟩ := c
  have hx1 : ∀ c1 : HP, hX c1.1 = (L, xs) → (hX (mH c1)).1 = L ∧ (hX (mH c1)).2 = xs := fun c1 e => ⟨(congrArg Prod.fst e : _), (congrArg Prod.snd e : _)⟩
  obtain ⟨k, b, c1, c2, g, r1, r2, hk, hb, hxc⟩ := o_count (U := U) (J := J) (x := xs (i + 1)) hG
  have r1 : ∀ d K, EvM (d + 40) 170 [.ref 0, .int (xs (i + 1)), .ref 155] (mH (h, T, U, S, A, J, G)) K = K (.inl (some (.int k))) (mH c1) := r1
  obtain ⟨p1, p2⟩ := hx1 _ hX1
  obtain ⟨xc1, xc2⟩ := hx1 c1 (hxc.trans hX1)
  refine ⟨c2, g, fun d Q l5 l6 => ⟨some (.int k), some (.int b), ?_⟩⟩
  by_cases k0 : k = 0
  · have hb := hb k0
    simp only [i182_607, i182_608, i182_609, i182_611, i182_612, i182_613, i182_614, i182_615, i182_618, i182_620, i182_621, i182_622, i182_624, i182_625, i182_626, i182_627, i182_630, i182_632, i182_633, i182_636, i182_638, i182_641, i182_642, i182_643, i182_645, i182_648, i182_649, i182_650, i182_651, i182_653, i182_654, i182_655, i182_658, i182_659, i182_660, in88, i88_0, i88_1, i88_4, nl_i, nl_r, nl_0, nl_j, nb0, nb1, nbI, orv_s, konN_v, konN_n, konN_e, true_and, and_true, and_self, if_true, if_false, ite_true, ite_false, isR_ref, true_or, or_true, bI_T, bI_F, bI_Fb, i1z, Bool.false_eq_true, mk0, mk140, mk155, ml155, mj155, isR_s, inbT (show i + 1 < L by omega) hL, zn_nI (show i + 1 < 2 ^ 31 by omega), nI_1, nI_p2, nI_p3, nI_p4, nI_p5, p1, p2, xc1, xc2, r1, r2, mf140, hk, k0, iz_0, inb01, hb, lgc]
  · simp only [i182_607, i182_608, i182_609, i182_611, i182_612, i182_613, i182_614, i182_615, i182_618, i182_620, i182_621, i182_622, i182_624, i182_625, i182_626, i182_627, i182_630, i182_632, i182_633, i182_636, i182_638, i182_641, i182_642, i182_643, i182_645, i182_648, i182_649, i182_650, i182_651, i182_653, i182_654, i182_655, i182_658, i182_659, i182_660, in88, i88_0, i88_1, i88_4, nl_i, nl_r, nl_0, nl_j, nb0, nb1, nbI, orv_s, konN_v, konN_n, konN_e, true_and, and_true, and_self, if_true, if_false, ite_true, ite_false, isR_ref, true_or, or_true, bI_T, bI_F, bI_Fb, i1z, Bool.false_eq_true, mk0, mk140, mk155, ml155, mj155, isR_s, inbT (show i + 1 < L by omega) hL, zn_nI (show i + 1 < 2 ^ 31 by omega), nI_1, nI_p2, nI_p3, nI_p4, nI_p5, p1, p2, xc1, xc2, r1, r2, mf140, hk, k0]
theorem lc_13 (hG : GRc c) (hX1 : hX c.1 = (L, xs)) (hi : i + 6 ≤ L) (hL : L < 2 ^ 31) : LC L xs i 663 c := by
  obtain ⟨h, T, U, S, A, J, G⟩ := c
  have hx1 : ∀ c1 : HP, hX c1.1 = (L, xs) → (hX (mH c1)).1 = L ∧ (hX (mH c1)).2 = xs := fun c1 e => ⟨(congrArg Prod.fst e : _), (congrArg Prod.snd e : _)⟩
  obtain ⟨k, b, c1, c2, g, r1, r2, hk, hb, hxc⟩ := o_learned (U := U) (J := J) (x := xs (i + 1)) (y := xs (i + 2)) hG
  have r1 : ∀ d K, EvM (d + 40) 171 [.ref 0, .int (xs (i + 1)), .int (xs (i + 2)), .ref 155] (mH (h, T, U, S, A, J, G)) K = K (.inl (some (.int k))) (mH c1) := r1
  obtain ⟨p1, p2⟩ := hx1 _ hX1
  obtain ⟨xc1, xc2⟩ := hx1 c1 (hxc.trans hX1)
  refine ⟨c2, g, fun d Q l5 l6 => ⟨some (.int k), some (.int b), ?_⟩⟩
  by_cases k0 : k = 0
  · have hb := hb k0
    simp only [i182_663, i182_664, i182_665, i182_667, i182_668, i182_669, i182_670, i182_671, i182_673, i182_674, i182_675, i182_676, i182_677, i182_680, i182_682, i182_683, i182_684, i182_686, i182_687, i182_688, i182_689, i182_690, i182_692, i182_693, i182_694, i182_695, i182_698, i182_700, i182_701, i182_704, i182_706, i182_709, i182_710, i182_711, i182_713, i182_716, i182_717, i182_718, i182_719, i182_721, i182_722, i182_723, i182_726, i182_727, i182_728, in88, i88_0, i88_1, i88_4, nl_i, nl_r, nl_0, nl_j, nb0, nb1, nbI, orv_s, konN_v, konN_n, konN_e, true_and, and_true, and_self, if_true, if_false, ite_true, ite_false, isR_ref, true_or, or_true, bI_T, bI_F, bI_Fb, i1z, Bool.false_eq_true, mk0, mk140, mk155, ml155, mj155, isR_s, inbT (show i + 1 < L by omega) hL, zn_nI (show i + 1 < 2 ^ 31 by omega), inbT (show i + 2 < L by omega) hL, zn_nI (show i + 2 < 2 ^ 31 by omega), nI_1, nI_p2, nI_p3, nI_p4, nI_p5, p1, p2, xc1, xc2, r1, r2, mf140, hk, k0, iz_0, inb01, hb, lgc]
  · simp only [i182_663, i182_664, i182_665, i182_667, i182_668, i182_669, i182_670, i182_671, i182_673, i182_674, i182_675, i182_676, i182_677, i182_680, i182_682, i182_683, i182_684, i182_686, i182_687, i182_688, i182_689, i182_690, i182_692, i182_693, i182_694, i182_695, i182_698, i182_700, i182_701, i182_704, i182_706, i182_709, i182_710, i182_711, i182_713, i182_716, i182_717, i182_718, i182_719, i182_721, i182_722, i182_723, i182_726, i182_727, i182_728, in88, i88_0, i88_1, i88_4, nl_i, nl_r, nl_0, nl_j, nb0, nb1, nbI, orv_s, konN_v, konN_n, konN_e, true_and, and_true, and_self, if_true, if_false, ite_true, ite_false, isR_ref, true_or, or_true, bI_T, bI_F, bI_Fb, i1z, Bool.false_eq_true, mk0, mk140, mk155, ml155, mj155, isR_s, inbT (show i + 1 < L by omega) hL, zn_nI (show i + 1 < 2 ^ 31 by omega), inbT (show i + 2 < L by omega) hL, zn_nI (show i + 2 < 2 ^ 31 by omega), nI_1, nI_p2, nI_p3, nI_p4, nI_p5, p1, p2, xc1, xc2, r1, r2, mf140, hk, k0]
theorem lc_14 (hG : GRc c) (hX1 : hX c.1 = (L, xs)) (hi : i + 6 ≤ L) (hL : L < 2 ^ 31) : LC L xs i 731 c := by
  obtain ⟨h, T, U, S, A, J, G⟩ := c
  have hx1 : ∀ c1 : HP, hX c1.1 = (L, xs) → (hX (mH c1)).1 = L ∧ (hX (mH c1)).2 = xs := fun c1 e => ⟨(congrArg Prod.fst e : _), (congrArg Prod.snd e : _)⟩
  obtain ⟨k, b, c1, c2, g, r1, r2, hk, hb, hxc⟩ := o_risk (U := U) (J := J) (x := xs (i + 1)) hG
  have r1 : ∀ d K, EvM (d + 40) 172 [.ref 0, .int (xs (i + 1)), .ref 155] (mH (h, T, U, S, A, J, G)) K = K (.inl (some (.int k))) (mH c1) := r1
  obtain ⟨p1, p2⟩ := hx1 _ hX1
  obtain ⟨xc1, xc2⟩ := hx1 c1 (hxc.trans hX1)
  refine ⟨c2, g, fun d Q l5 l6 => ⟨some (.int k), some (.int b), ?_⟩⟩
  by_cases k0 : k = 0
  · have hb := hb k0
    simp only [i182_731, i182_732, i182_733, i182_735, i182_736, i182_737, i182_738, i182_739, i182_742, i182_744, i182_745, i182_746, i182_748, i182_749, i182_750, i182_751, i182_754, i182_756, i182_757, i182_760, i182_762, i182_765, i182_766, i182_767, i182_769, i182_772, i182_773, i182_774, i182_775, i182_777, i182_778, i182_779, i182_782, i182_783, i182_784, in88, i88_0, i88_1, i88_4, nl_i, nl_r, nl_0, nl_j, nb0, nb1, nbI, orv_s, konN_v, konN_n, konN_e, true_and, and_true, and_self, if_true, if_false, ite_true, ite_false, isR_ref, true_or, or_true, bI_T, bI_F, bI_Fb, i1z, Bool.false_eq_true, mk0, mk140, mk155, ml155, mj155, isR_s, inbT (show i + 1 < L by omega) hL, zn_nI (show i + 1 < 2 ^ 31 by omega), nI_1, nI_p2, nI_p3, nI_p4, nI_p5, p1, p2, xc1, xc2, r1, r2, mf140, hk, k0, iz_0, inb01, hb, lgc]
  · simp only [i182_731, i182_732, i182_733, i182_735, i182_736, i182_737, i182_738, i182_739, i182_742, i182_744, i182_745, i182_746, i182_748, i182_749, i182_750, i182_751, i182_754, i182_756, i182_757, i182_760, i182_762, i182_765, i182_766, i182_767, i182_769, i182_772, i182_773, i182_774, i182_775, i182_777, i182_778, i182_779, i182_782, i182_783, i182_784, in88, i88_0, i88_1, i88_4, nl_i, nl_r, nl_0, nl_j, nb0, nb1, nbI, orv_s, konN_v, konN_n, konN_e, true_and, and_true, and_self, if_true, if_false, ite_true, ite_false, isR_ref, true_or, or_true, bI_T, bI_F, bI_Fb, i1z, Bool.false_eq_true, mk0, mk140, mk155, ml155, mj155, isR_s, inbT (show i + 1 < L by omega) hL, zn_nI (show i + 1 < 2 ^ 31 by omega), nI_1, nI_p2, nI_p3, nI_p4, nI_p5, p1, p2, xc1, xc2, r1, r2, mf140, hk, k0]
theorem lc_15 (hG : GRc c) (hX1 : hX c.1 = (L, xs)) (hi : i + 6 ≤ L) (hL : L < 2 ^ 31) : LC L xs i 787 c := by
  obtain ⟨h, T, U, S, A, J, G⟩ := c
  have hx1 : ∀ c1 : HP, hX c1.1 = (L, xs) → (hX (mH c1)).1 = L ∧ (hX (mH c1)).2 = xs := fun c1 e => ⟨(congrArg Prod.fst e : _), (congrArg Prod.snd e : _)⟩
  obtain ⟨k, b, c1, c2, g, r1, r2, hk, hb, hxc⟩ := o_recognise (U := U) (J := J) (x := xs (i + 1)) (y := xs (i + 2)) hG
  have r1 : ∀ d K, EvM (d + 40) 173 [.ref 0, .int (xs (i + 1)), .int (xs (i + 2)), .ref 155] (mH (h, T, U, S, A, J, G)) K = K (.inl (some (.int k))) (mH c1) := r1
  obtain ⟨p1, p2⟩ := hx1 _ hX1
  obtain ⟨xc1, xc2⟩ := hx1 c1 (hxc.trans hX1)
  refine ⟨c2, g, fun d Q l5 l6 => ⟨some (.int k), some (.int b), ?_⟩⟩
  by_cases k0 : k = 0
  · have hb := hb k0
    simp only [i182_787, i182_788, i182_789, i182_791, i182_792, i182_793, i182_794, i182_795, i182_797, i182_798, i182_799, i182_800, i182_801, i182_804, i182_806, i182_807, i182_808, i182_810, i182_811, i182_812, i182_813, i182_814, i182_816, i182_817, i182_818, i182_819, i182_822, i182_824, i182_825, i182_828, i182_830, i182_833, i182_834, i182_835, i182_837, i182_840, i182_841, i182_842, i182_843, i182_845, i182_846, i182_847, i182_850, i182_851, i182_852, in88, i88_0, i88_1, i88_4, nl_i, nl_r, nl_0, nl_j, nb0, nb1, nbI, orv_s, konN_v, konN_n, konN_e, true_and, and_true, and_self, if_true, if_false, ite_true, ite_false, isR_ref, true_or, or_true, bI_T, bI_F, bI_Fb, i1z, Bool.false_eq_true, mk0, mk140, mk155, ml155, mj155, isR_s, inbT (show i + 1 < L by omega) hL, zn_nI (show i + 1 < 2 ^ 31 by omega), inbT (show i + 2 < L by omega) hL, zn_nI (show i + 2 < 2 ^ 31 by omega), nI_1, nI_p2, nI_p3, nI_p4, nI_p5, p1, p2, xc1, xc2, r1, r2, mf140, hk, k0, iz_0, inb01, hb, lgc]
  · simp only [i182_787, i182_788, i182_789, i182_791, i182_792, i182_793, i182_794, i182_795, i182_797, i182_798, i182_799, i182_800, i182_801, i182_804, i182_806, i182_807, i182_808, i182_810, i182_811, i182_812, i182_813, i182_814, i182_816, i182_817, i182_818, i182_819, i182_822, i182_824, i182_825, i182_828, i182_830, i182_833, i182_834, i182_835, i182_837, i182_840, i182_841, i182_842, i182_843, i182_845, i182_846, i182_847, i182_850, i182_851, i182_852, in88, i88_0, i88_1, i88_4, nl_i, nl_r, nl_0, nl_j, nb0, nb1, nbI, orv_s, konN_v, konN_n, konN_e, true_and, and_true, and_self, if_true, if_false, ite_true, ite_false, isR_ref, true_or, or_true, bI_T, bI_F, bI_Fb, i1z, Bool.false_eq_true, mk0, mk140, mk155, ml155, mj155, isR_s, inbT (show i + 1 < L by omega) hL, zn_nI (show i + 1 < 2 ^ 31 by omega), inbT (show i + 2 < L by omega) hL, zn_nI (show i + 2 < 2 ^ 31 by omega), nI_1, nI_p2, nI_p3, nI_p4, nI_p5, p1, p2, xc1, xc2, r1, r2, mf140, hk, k0]
theorem lc_16 (hG : GRc c) (hX1 : hX c.1 = (L, xs)) (hi : i + 6 ≤ L) (hL : L < 2 ^ 31) : LC L xs i 855 c := by
  obtain ⟨h, T, U, S, A, J, G⟩ := c
  have hx1 : ∀ c1 : HP, hX c1.1 = (L, xs) → (hX (mH c1)).1 = L ∧ (hX (mH c1)).2 = xs := fun c1 e => ⟨(congrArg Prod.fst e : _), (congrArg Prod.snd e : _)⟩
  obtain ⟨k, b, c1, c2, g, r1, r2, hk, hb, hxc⟩ := o_guard (U := U) (J := J) (x := xs (i + 1)) hG
  have r1 : ∀ d K, EvM (d + 40) 174 [.ref 0, .int (xs (i + 1)), .ref 155] (mH (h, T, U, S, A, J, G)) K = K (.inl (some (.int k))) (mH c1) := r1
  obtain ⟨p1, p2⟩ := hx1 _ hX1
  obtain ⟨xc1, xc2⟩ := hx1 c1 (hxc.trans hX1)
  refine ⟨c2, g, fun d Q l5 l6 => ⟨some (.int k), some (.int b), ?_⟩⟩
  by_cases k0 : k = 0
  · have hb := hb k0
    simp only [i182_855, i182_856, i182_857, i182_859, i182_860, i182_861, i182_862, i182_863, i182_866, i182_868, i182_869, i182_870, i182_872, i182_873, i182_874, i182_875, i182_878, i182_880, i182_881, i182_884, i182_886, i182_889, i182_890, i182_891, i182_893, i182_896, i182_897, i182_898, i182_899, i182_901, i182_902, i182_903, i182_906, i182_907, i182_908, in88, i88_0, i88_1, i88_4, nl_i, nl_r, nl_0, nl_j, nb0, nb1, nbI, orv_s, konN_v, konN_n, konN_e, true_and, and_true, and_self, if_true, if_false, ite_true, ite_false, isR_ref, true_or, or_true, bI_T, bI_F, bI_Fb, i1z, Bool.false_eq_true, mk0, mk140, mk155, ml155, mj155, isR_s, inbT (show i + 1 < L by omega) hL, zn_nI (show i + 1 < 2 ^ 31 by omega), nI_1, nI_p2, nI_p3, nI_p4, nI_p5, p1, p2, xc1, xc2, r1, r2, mf140, hk, k0, iz_0, inb01, hb, lgc]
  · simp only [i182_855, i182_856, i182_857, i182_859, i182_860, i182_861, i182_862, i182_863, i182_866, i182_868, i182_869, i182_870, i182_872, i182_873, i182_874, i182_875, i182_878, i182_880, i182_881, i182_884, i182_886, i182_889, i182_890, i182_891, i182_893, i182_896, i182_897, i182_898, i182_899, i182_901, i182_902, i182_903, i182_906, i182_907, i182_908, in88, i88_0, i88_1, i88_4, nl_i, nl_r, nl_0, nl_j, nb0, nb1, nbI, orv_s, konN_v, konN_n, konN_e, true_and, and_true, and_self, if_true, if_false, ite_true, ite_false, isR_ref, true_or, or_true, bI_T, bI_F, bI_Fb, i1z, Bool.false_eq_true, mk0, mk140, mk155, ml155, mj155, isR_s, inbT (show i + 1 < L by omega) hL, zn_nI (show i + 1 < 2 ^ 31 by omega), nI_1, nI_p2, nI_p3, nI_p4, nI_p5, p1, p2, xc1, xc2, r1, r2, mf140, hk, k0]
theorem lc_17 (hG : GRc c) (hX1 : hX c.1 = (L, xs)) (hi : i + 6 ≤ L) (hL : L < 2 ^ 31) : LC L xs i 911 c := by
  obtain ⟨h, T, U, S, A, J, G⟩ := c
  have hx1 : ∀ c1 : HP, hX c1.1 = (L, xs) → (hX (mH c1)).1 = L ∧ (hX (mH c1)).2 = xs := fun c1 e => ⟨(congrArg Prod.fst e : _), (congrArg Prod.snd e : _)⟩
  obtain ⟨k, b, c1, c2, g, r1, r2, hk, hb, hxc⟩ := o_finishTime (U := U) (J := J) (x := xs (i + 1)) hG
  have r1 : ∀ d K, EvM (d + 40) 175 [.ref 0, .int (xs (i + 1)), .ref 155] (mH (h, T, U, S, A, J, G)) K = K (.inl (some (.int k))) (mH c1) := r1
  obtain ⟨p1, p2⟩ := hx1 _ hX1
  obtain ⟨xc1, xc2⟩ := hx1 c1 (hxc.trans hX1)
  refine ⟨c2, g, fun d Q l5 l6 => ⟨some (.int k), some (.int b), ?_⟩⟩
  by_cases k0 : k = 0
  · have hb := hb k0
    simp only [i182_911, i182_912, i182_913, i182_915, i182_916, i182_917, i182_918, i182_919, i182_922, i182_924, i182_925, i182_926, i182_928, i182_929, i182_930, i182_931, i182_934, i182_936, i182_937, i182_940, i182_942, i182_945, i182_946, i182_947, i182_949, i182_952, i182_953, i182_954, i182_955, i182_957, i182_958, i182_959, i182_962, i182_963, i182_964, in88, i88_0, i88_1, i88_4, nl_i, nl_r, nl_0, nl_j, nb0, nb1, nbI, orv_s, konN_v, konN_n, konN_e, true_and, and_true, and_self, if_true, if_false, ite_true, ite_false, isR_ref, true_or, or_true, bI_T, bI_F, bI_Fb, i1z, Bool.false_eq_true, mk0, mk140, mk155, ml155, mj155, isR_s, inbT (show i + 1 < L by omega) hL, zn_nI (show i + 1 < 2 ^ 31 by omega), nI_1, nI_p2, nI_p3, nI_p4, nI_p5, p1, p2, xc1, xc2, r1, r2, mf140, hk, k0, iz_0, inb01, hb, lgc]
  · simp only [i182_911, i182_912, i182_913, i182_915, i182_916, i182_917, i182_918, i182_919, i182_922, i182_924, i182_925, i182_926, i182_928, i182_929, i182_930, i182_931, i182_934, i182_936, i182_937, i182_940, i182_942, i182_945, i182_946, i182_947, i182_949, i182_952, i182_953, i182_954, i182_955, i182_957, i182_958, i182_959, i182_962, i182_963, i182_964, in88, i88_0, i88_1, i88_4, nl_i, nl_r, nl_0, nl_j, nb0, nb1, nbI, orv_s, konN_v, konN_n, konN_e, true_and, and_true, and_self, if_true, if_false, ite_true, ite_false, isR_ref, true_or, or_true, bI_T, bI_F, bI_Fb, i1z, Bool.false_eq_true, mk0, mk140, mk155, ml155, mj155, isR_s, inbT (show i + 1 < L by omega) hL, zn_nI (show i + 1 < 2 ^ 31 by omega), nI_1, nI_p2, nI_p3, nI_p4, nI_p5, p1, p2, xc1, xc2, r1, r2, mf140, hk, k0]
theorem lc_18 (hG : GRc c) (hX1 : hX c.1 = (L, xs)) (hi : i + 6 ≤ L) (hL : L < 2 ^ 31) : LC L xs i 967 c := by
  obtain ⟨h, T, U, S, A, J, G⟩ := c
  have hx1 : ∀ c1 : HP, hX c1.1 = (L, xs) → (hX (mH c1)).1 = L ∧ (hX (mH c1)).2 = xs := fun c1 e => ⟨(congrArg Prod.fst e : _), (congrArg Prod.snd e : _)⟩
  obtain ⟨k, b, c1, c2, g, r1, r2, hk, hb, hxc⟩ := o_stateAfter (U := U) (J := J) (x := xs (i + 1)) (y := xs (i + 2)) hG
  have r1 : ∀ d K, EvM (d + 40) 176 [.ref 0, .int (xs (i + 1)), .int (xs (i + 2)), .ref 155] (mH (h, T, U, S, A, J, G)) K = K (.inl (some (.int k))) (mH c1) := r1
  obtain ⟨p1, p2⟩ := hx1 _ hX1
  obtain ⟨xc1, xc2⟩ := hx1 c1 (hxc.trans hX1)
  refine ⟨c2, g, fun d Q l5 l6 => ⟨some (.int k), some (.int b), ?_⟩⟩
  by_cases k0 : k = 0
  · have hb := hb k0
    simp only [i182_967, i182_968, i182_969, i182_971, i182_972, i182_973, i182_974, i182_975, i182_977, i182_978, i182_979, i182_980, i182_981, i182_984, i182_986, i182_987, i182_988, i182_990, i182_991, i182_992, i182_993, i182_994, i182_996, i182_997, i182_998, i182_999, i182_1002, i182_1004, i182_1005, i182_1008, i182_1010, i182_1013, i182_1014, i182_1015, i182_1017, i182_1020, i182_1021, i182_1022, i182_1023, i182_1025, i182_1026, i182_1027, i182_1030, i182_1031, i182_1032, in88, i88_0, i88_1, i88_4, nl_i, nl_r, nl_0, nl_j, nb0, nb1, nbI, orv_s, konN_v, konN_n, konN_e, true_and, and_true, and_self, if_true, if_false, ite_true, ite_false, isR_ref, true_or, or_true, bI_T, bI_F, bI_Fb, i1z, Bool.false_eq_true, mk0, mk140, mk155, ml155, mj155, isR_s, inbT (show i + 1 < L by omega) hL, zn_nI (show i + 1 < 2 ^ 31 by omega), inbT (show i + 2 < L by omega) hL, zn_nI (show i + 2 < 2 ^ 31 by omega), nI_1, nI_p2, nI_p3, nI_p4, nI_p5, p1, p2, xc1, xc2, r1, r2, mf140, hk, k0, iz_0, inb01, hb, lgc]
  · simp only [i182_967, i182_968, i182_969, i182_971, i182_972, i182_973, i182_974, i182_975, i182_977, i182_978, i182_979, i182_980, i182_981, i182_984, i182_986, i182_987, i182_988, i182_990, i182_991, i182_992, i182_993, i182_994, i182_996, i182_997, i182_998, i182_999, i182_1002, i182_1004, i182_1005, i182_1008, i182_1010, i182_1013, i182_1014, i182_1015, i182_1017, i182_1020, i182_1021, i182_1022, i182_1023, i182_1025, i182_1026, i182_1027, i182_1030, i182_1031, i182_1032, in88, i88_0, i88_1, i88_4, nl_i, nl_r, nl_0, nl_j, nb0, nb1, nbI, orv_s, konN_v, konN_n, konN_e, true_and, and_true, and_self, if_true, if_false, ite_true, ite_false, isR_ref, true_or, or_true, bI_T, bI_F, bI_Fb, i1z, Bool.false_eq_true, mk0, mk140, mk155, ml155, mj155, isR_s, inbT (show i + 1 < L by omega) hL, zn_nI (show i + 1 < 2 ^ 31 by omega), inbT (show i + 2 < L by omega) hL, zn_nI (show i + 2 < 2 ^ 31 by omega), nI_1, nI_p2, nI_p3, nI_p4, nI_p5, p1, p2, xc1, xc2, r1, r2, mf140, hk, k0]
theorem lc_19 (hG : GRc c) (hX1 : hX c.1 = (L, xs)) (hi : i + 6 ≤ L) (hL : L < 2 ^ 31) : LC L xs i 1035 c := by
  obtain ⟨h, T, U, S, A, J, G⟩ := c
  obtain ⟨v, c1, c2, g, r1, r2⟩ := o_bestSetpoint (U := U) (J := J)  hG
  refine ⟨c2, g, fun d Q l5 l6 => ⟨l5, l6, ?_⟩⟩
  simp only [i182_1035, i182_1036, i182_1039, i182_1040, i182_1043, i182_1046, i182_1047, nl_i, nl_r, nl_0, nl_j, nb0, nb1, nbI, orv_s, konN_v, konN_n, konN_e, true_and, and_true, and_self, if_true, if_false, ite_true, ite_false, isR_ref, true_or, or_true, bI_T, bI_F, bI_Fb, i1z, Bool.false_eq_true, mk0, mk140, mk155, ml155, mj155, isR_s, r1, r2]
theorem lc_20 (hG : GRc c) (hX1 : hX c.1 = (L, xs)) (hi : i + 6 ≤ L) (hL : L < 2 ^ 31) : LC L xs i 1048 c := by
  obtain ⟨h, T, U, S, A, J, G⟩ := c
  have hx1 : ∀ c1 : HP, hX c1.1 = (L, xs) → (hX (mH c1)).1 = L ∧ (hX (mH c1)).2 = xs := fun c1 e => ⟨(congrArg Prod.fst e : _), (congrArg Prod.snd e : _)⟩
  obtain ⟨k, b, c1, c2, g, r1, r2, hk, hb, hxc⟩ := o_add (U := U) (J := J) (x := xs (i + 1)) (y := xs (i + 2)) hG
  have r1 : ∀ d K, EvM (d + 40) 177 [.ref 0, .int (xs (i + 1)), .int (xs (i + 2)), .ref 155] (mH (h, T, U, S, A, J, G)) K = K (.inl (some (.int k))) (mH c1) := r1
  obtain ⟨p1, p2⟩ := hx1 _ hX1
  obtain ⟨xc1, xc2⟩ := hx1 c1 (hxc.trans hX1)
  refine ⟨c2, g, fun d Q l5 l6 => ⟨some (.int k), some (.int b), ?_⟩⟩
  by_cases k0 : k = 0
  · have hb := hb k0
    simp only [i182_1048, i182_1049, i182_1050, i182_1052, i182_1053, i182_1054, i182_1055, i182_1056, i182_1058, i182_1059, i182_1060, i182_1061, i182_1062, i182_1065, i182_1067, i182_1068, i182_1069, i182_1071, i182_1072, i182_1073, i182_1074, i182_1075, i182_1077, i182_1078, i182_1079, i182_1080, i182_1083, i182_1085, i182_1086, i182_1089, i182_1091, i182_1094, i182_1095, i182_1096, i182_1098, i182_1101, i182_1102, i182_1103, i182_1104, i182_1106, i182_1107, i182_1108, i182_1111, i182_1112, i182_1113, in88, i88_0, i88_1, i88_4, nl_i, nl_r, nl_0, nl_j, nb0, nb1, nbI, orv_s, konN_v, konN_n, konN_e, true_and, and_true, and_self, if_true, if_false, ite_true, ite_false, isR_ref, true_or, or_true, bI_T, bI_F, bI_Fb, i1z, Bool.false_eq_true, mk0, mk140, mk155, ml155, mj155, isR_s, inbT (show i + 1 < L by omega) hL, zn_nI (show i + 1 < 2 ^ 31 by omega), inbT (show i + 2 < L by omega) hL, zn_nI (show i + 2 < 2 ^ 31 by omega), nI_1, nI_p2, nI_p3, nI_p4, nI_p5, p1, p2, xc1, xc2, r1, r2, mf140, hk, k0, iz_0, inb01, hb, lgc]
  · simp only [i182_1048, i182_1049, i182_1050, i182_1052, i182_1053, i182_1054, i182_1055, i182_1056, i182_1058, i182_1059, i182_1060, i182_1061, i182_1062, i182_1065, i182_1067, i182_1068, i182_1069, i182_1071, i182_1072, i182_1073, i182_1074, i182_1075, i182_1077, i182_1078, i182_1079, i182_1080, i182_1083, i182_1085, i182_1086, i182_1089, i182_1091, i182_1094, i182_1095, i182_1096, i182_1098, i182_1101, i182_1102, i182_1103, i182_1104, i182_1106, i182_1107, i182_1108, i182_1111, i182_1112, i182_1113, in88, i88_0, i88_1, i88_4, nl_i, nl_r, nl_0, nl_j, nb0, nb1, nbI, orv_s, konN_v, konN_n, konN_e, true_and, and_true, and_self, if_true, if_false, ite_true, ite_false, isR_ref, true_or, or_true, bI_T, bI_F, bI_Fb, i1z, Bool.false_eq_true, mk0, mk140, mk155, ml155, mj155, isR_s, inbT (show i + 1 < L by omega) hL, zn_nI (show i + 1 < 2 ^ 31 by omega), inbT (show i + 2 < L by omega) hL, zn_nI (show i + 2 < 2 ^ 31 by omega), nI_1, nI_p2, nI_p3, nI_p4, nI_p5, p1, p2, xc1, xc2, r1, r2, mf140, hk, k0]
theorem lc_21 (hG : GRc c) (hX1 : hX c.1 = (L, xs)) (hi : i + 6 ≤ L) (hL : L < 2 ^ 31) : LC L xs i 1116 c := by
  obtain ⟨h, T, U, S, A, J, G⟩ := c
  have hx1 : ∀ c1 : HP, hX c1.1 = (L, xs) → (hX (mH c1)).1 = L ∧ (hX (mH c1)).2 = xs := fun c1 e => ⟨(congrArg Prod.fst e : _), (congrArg Prod.snd e : _)⟩
  obtain ⟨k, b, c1, c2, g, r1, r2, hk, hb, hxc⟩ := o_run (U := U) (J := J) (x := xs (i + 1)) hG
  have r1 : ∀ d K, EvM (d + 40) 178 [.ref 0, .int (xs (i + 1)), .ref 155] (mH (h, T, U, S, A, J, G)) K = K (.inl (some (.int k))) (mH c1) := r1
  obtain ⟨p1, p2⟩ := hx1 _ hX1
  obtain ⟨xc1, xc2⟩ := hx1 c1 (hxc.trans hX1)
  refine ⟨c2, g, fun d Q l5 l6 => ⟨some (.int k), some (.int b), ?_⟩⟩
  by_cases k0 : k = 0
  · have hb := hb k0
    simp only [i182_1116, i182_1117, i182_1118, i182_1120, i182_1121, i182_1122, i182_1123, i182_1124, i182_1127, i182_1129, i182_1130, i182_1131, i182_1133, i182_1134, i182_1135, i182_1136, i182_1139, i182_1141, i182_1142, i182_1145, i182_1147, i182_1150, i182_1151, i182_1152, i182_1154, i182_1157, i182_1158, i182_1159, i182_1160, i182_1162, i182_1163, i182_1164, i182_1167, i182_1168, i182_1169, in88, i88_0, i88_1, i88_4, nl_i, nl_r, nl_0, nl_j, nb0, nb1, nbI, orv_s, konN_v, konN_n, konN_e, true_and, and_true, and_self, if_true, if_false, ite_true, ite_false, isR_ref, true_or, or_true, bI_T, bI_F, bI_Fb, i1z, Bool.false_eq_true, mk0, mk140, mk155, ml155, mj155, isR_s, inbT (show i + 1 < L by omega) hL, zn_nI (show i + 1 < 2 ^ 31 by omega), nI_1, nI_p2, nI_p3, nI_p4, nI_p5, p1, p2, xc1, xc2, r1, r2, mf140, hk, k0, iz_0, inb01, hb, lgc]
  · simp only [i182_1116, i182_1117, i182_1118, i182_1120, i182_1121, i182_1122, i182_1123, i182_1124, i182_1127, i182_1129, i182_1130, i182_1131, i182_1133, i182_1134, i182_1135, i182_1136, i182_1139, i182_1141, i182_1142, i182_1145, i182_1147, i182_1150, i182_1151, i182_1152, i182_1154, i182_1157, i182_1158, i182_1159, i182_1160, i182_1162, i182_1163, i182_1164, i182_1167, i182_1168, i182_1169, in88, i88_0, i88_1, i88_4, nl_i, nl_r, nl_0, nl_j, nb0, nb1, nbI, orv_s, konN_v, konN_n, konN_e, true_and, and_true, and_self, if_true, if_false, ite_true, ite_false, isR_ref, true_or, or_true, bI_T, bI_F, bI_Fb, i1z, Bool.false_eq_true, mk0, mk140, mk155, ml155, mj155, isR_s, inbT (show i + 1 < L by omega) hL, zn_nI (show i + 1 < 2 ^ 31 by omega), nI_1, nI_p2, nI_p3, nI_p4, nI_p5, p1, p2, xc1, xc2, r1, r2, mf140, hk, k0]
theorem lc_22 (hG : GRc c) (hX1 : hX c.1 = (L, xs)) (hi : i + 6 ≤ L) (hL : L < 2 ^ 31) : LC L xs i 1172 c := by
  obtain ⟨h, T, U, S, A, J, G⟩ := c
  have hx1 : ∀ c1 : HP, hX c1.1 = (L, xs) → (hX (mH c1)).1 = L ∧ (hX (mH c1)).2 = xs := fun c1 e => ⟨(congrArg Prod.fst e : _), (congrArg Prod.snd e : _)⟩
  obtain ⟨k, b, c1, c2, g, r1, r2, hk, hb, hxc⟩ := o_setPoint (U := U) (J := J) (x := xs (i + 1)) (y := xs (i + 2)) hG
  have r1 : ∀ d K, EvM (d + 40) 179 [.ref 0, .int (xs (i + 1)), .int (xs (i + 2)), .ref 155] (mH (h, T, U, S, A, J, G)) K = K (.inl (some (.int k))) (mH c1) := r1
  obtain ⟨p1, p2⟩ := hx1 _ hX1
  obtain ⟨xc1, xc2⟩ := hx1 c1 (hxc.trans hX1)
  refine ⟨c2, g, fun d Q l5 l6 => ⟨some (.int k), some (.int b), ?_⟩⟩
  by_cases k0 : k = 0
  · have hb := hb k0
    simp only [i182_1172, i182_1173, i182_1174, i182_1176, i182_1177, i182_1178, i182_1179, i182_1180, i182_1182, i182_1183, i182_1184, i182_1185, i182_1186, i182_1189, i182_1191, i182_1192, i182_1193, i182_1195, i182_1196, i182_1197, i182_1198, i182_1199, i182_1201, i182_1202, i182_1203, i182_1204, i182_1207, i182_1209, i182_1210, i182_1213, i182_1215, i182_1218, i182_1219, i182_1220, i182_1222, i182_1225, i182_1226, i182_1227, i182_1228, i182_1230, i182_1231, i182_1232, i182_1235, i182_1236, i182_1237, in88, i88_0, i88_1, i88_4, nl_i, nl_r, nl_0, nl_j, nb0, nb1, nbI, orv_s, konN_v, konN_n, konN_e, true_and, and_true, and_self, if_true, if_false, ite_true, ite_false, isR_ref, true_or, or_true, bI_T, bI_F, bI_Fb, i1z, Bool.false_eq_true, mk0, mk140, mk155, ml155, mj155, isR_s, inbT (show i + 1 < L by omega) hL, zn_nI (show i + 1 < 2 ^ 31 by omega), inbT (show i + 2 < L by omega) hL, zn_nI (show i + 2 < 2 ^ 31 by omega), nI_1, nI_p2, nI_p3, nI_p4, nI_p5, p1, p2, xc1, xc2, r1, r2, mf140, hk, k0, iz_0, inb01, hb, lgc]
  · simp only [i182_1172, i182_1173, i182_1174, i182_1176, i182_1177, i182_1178, i182_1179, i182_1180, i182_1182, i182_1183, i182_1184, i182_1185, i182_1186, i182_1189, i182_1191, i182_1192, i182_1193, i182_1195, i182_1196, i182_1197, i182_1198, i182_1199, i182_1201, i182_1202, i182_1203, i182_1204, i182_1207, i182_1209, i182_1210, i182_1213, i182_1215, i182_1218, i182_1219, i182_1220, i182_1222, i182_1225, i182_1226, i182_1227, i182_1228, i182_1230, i182_1231, i182_1232, i182_1235, i182_1236, i182_1237, in88, i88_0, i88_1, i88_4, nl_i, nl_r, nl_0, nl_j, nb0, nb1, nbI, orv_s, konN_v, konN_n, konN_e, true_and, and_true, and_self, if_true, if_false, ite_true, ite_false, isR_ref, true_or, or_true, bI_T, bI_F, bI_Fb, i1z, Bool.false_eq_true, mk0, mk140, mk155, ml155, mj155, isR_s, inbT (show i + 1 < L by omega) hL, zn_nI (show i + 1 < 2 ^ 31 by omega), inbT (show i + 2 < L by omega) hL, zn_nI (show i + 2 < 2 ^ 31 by omega), nI_1, nI_p2, nI_p3, nI_p4, nI_p5, p1, p2, xc1, xc2, r1, r2, mf140, hk, k0]
theorem lc_23 (hG : GRc c) (hX1 : hX c.1 = (L, xs)) (hi : i + 6 ≤ L) (hL : L < 2 ^ 31) : LC L xs i 1240 c := by
  obtain ⟨h, T, U, S, A, J, G⟩ := c
  have hx1 : ∀ c1 : HP, hX c1.1 = (L, xs) → (hX (mH c1)).1 = L ∧ (hX (mH c1)).2 = xs := fun c1 e => ⟨(congrArg Prod.fst e : _), (congrArg Prod.snd e : _)⟩
  obtain ⟨k, b, c1, c2, g, r1, r2, hk, hb, hxc⟩ := o_setCorrection (U := U) (J := J) (x := xs (i + 1)) (y := xs (i + 2)) hG
  have r1 : ∀ d K, EvM (d + 40) 180 [.ref 0, .int (xs (i + 1)), .int (xs (i + 2)), .ref 155] (mH (h, T, U, S, A, J, G)) K = K (.inl (some (.int k))) (mH c1) := r1
  obtain ⟨p1, p2⟩ := hx1 _ hX1
  obtain ⟨xc1, xc2⟩ := hx1 c1 (hxc.trans hX1)
  refine ⟨c2, g, fun d Q l5 l6 => ⟨some (.int k), some (.int b), ?_⟩⟩
  by_cases k0 : k = 0
  · have hb := hb k0
    simp only [i182_1240, i182_1241, i182_1242, i182_1244, i182_1245, i182_1246, i182_1247, i182_1248, i182_1250, i182_1251, i182_1252, i182_1253, i182_1254, i182_1257, i182_1259, i182_1260, i182_1261, i182_1263, i182_1264, i182_1265, i182_1266, i182_1267, i182_1269, i182_1270, i182_1271, i182_1272, i182_1275, i182_1277, i182_1278, i182_1281, i182_1283, i182_1286, i182_1287, i182_1288, i182_1290, i182_1293, i182_1294, i182_1295, i182_1296, i182_1298, i182_1299, i182_1300, i182_1303, i182_1304, i182_1305, in88, i88_0, i88_1, i88_4, nl_i, nl_r, nl_0, nl_j, nb0, nb1, nbI, orv_s, konN_v, konN_n, konN_e, true_and, and_true, and_self, if_true, if_false, ite_true, ite_false, isR_ref, true_or, or_true, bI_T, bI_F, bI_Fb, i1z, Bool.false_eq_true, mk0, mk140, mk155, ml155, mj155, isR_s, inbT (show i + 1 < L by omega) hL, zn_nI (show i + 1 < 2 ^ 31 by omega), inbT (show i + 2 < L by omega) hL, zn_nI (show i + 2 < 2 ^ 31 by omega), nI_1, nI_p2, nI_p3, nI_p4, nI_p5, p1, p2, xc1, xc2, r1, r2, mf140, hk, k0, iz_0, inb01, hb, lgc]
  · simp only [i182_1240, i182_1241, i182_1242, i182_1244, i182_1245, i182_1246, i182_1247, i182_1248, i182_1250, i182_1251, i182_1252, i182_1253, i182_1254, i182_1257, i182_1259, i182_1260, i182_1261, i182_1263, i182_1264, i182_1265, i182_1266, i182_1267, i182_1269, i182_1270, i182_1271, i182_1272, i182_1275, i182_1277, i182_1278, i182_1281, i182_1283, i182_1286, i182_1287, i182_1288, i182_1290, i182_1293, i182_1294, i182_1295, i182_1296, i182_1298, i182_1299, i182_1300, i182_1303, i182_1304, i182_1305, in88, i88_0, i88_1, i88_4, nl_i, nl_r, nl_0, nl_j, nb0, nb1, nbI, orv_s, konN_v, konN_n, konN_e, true_and, and_true, and_self, if_true, if_false, ite_true, ite_false, isR_ref, true_or, or_true, bI_T, bI_F, bI_Fb, i1z, Bool.false_eq_true, mk0, mk140, mk155, ml155, mj155, isR_s, inbT (show i + 1 < L by omega) hL, zn_nI (show i + 1 < 2 ^ 31 by omega), inbT (show i + 2 < L by omega) hL, zn_nI (show i + 2 < 2 ^ 31 by omega), nI_1, nI_p2, nI_p3, nI_p4, nI_p5, p1, p2, xc1, xc2, r1, r2, mf140, hk, k0]
theorem lc_24 (hG : GRc c) (hX1 : hX c.1 = (L, xs)) (hi : i + 6 ≤ L) (hL : L < 2 ^ 31) : LC L xs i 1308 c := by
  obtain ⟨h, T, U, S, A, J, G⟩ := c
  have hx1 : ∀ c1 : HP, hX c1.1 = (L, xs) → (hX (mH c1)).1 = L ∧ (hX (mH c1)).2 = xs := fun c1 e => ⟨(congrArg Prod.fst e : _), (congrArg Prod.snd e : _)⟩
  obtain ⟨k, b, c1, c2, g, r1, r2, hk, hb, hxc⟩ := o_scrap (U := U) (J := J) (x := xs (i + 1)) hG
  have r1 : ∀ d K, EvM (d + 40) 181 [.ref 0, .int (xs (i + 1)), .ref 155] (mH (h, T, U, S, A, J, G)) K = K (.inl (some (.int k))) (mH c1) := r1
  obtain ⟨p1, p2⟩ := hx1 _ hX1
  obtain ⟨xc1, xc2⟩ := hx1 c1 (hxc.trans hX1)
  refine ⟨c2, g, fun d Q l5 l6 => ⟨some (.int k), some (.int b), ?_⟩⟩
  by_cases k0 : k = 0
  · have hb := hb k0
    simp only [i182_1308, i182_1309, i182_1310, i182_1312, i182_1313, i182_1314, i182_1315, i182_1316, i182_1319, i182_1321, i182_1322, i182_1323, i182_1325, i182_1326, i182_1327, i182_1328, i182_1331, i182_1333, i182_1334, i182_1337, i182_1339, i182_1342, i182_1343, i182_1344, i182_1346, i182_1349, i182_1350, i182_1351, i182_1352, i182_1354, i182_1355, i182_1356, i182_1359, i182_1360, i182_1361, in88, i88_0, i88_1, i88_4, nl_i, nl_r, nl_0, nl_j, nb0, nb1, nbI, orv_s, konN_v, konN_n, konN_e, true_and, and_true, and_self, if_true, if_false, ite_true, ite_false, isR_ref, true_or, or_true, bI_T, bI_F, bI_Fb, i1z, Bool.false_eq_true, mk0, mk140, mk155, ml155, mj155, isR_s, inbT (show i + 1 < L by omega) hL, zn_nI (show i + 1 < 2 ^ 31 by omega), nI_1, nI_p2, nI_p3, nI_p4, nI_p5, p1, p2, xc1, xc2, r1, r2, mf140, hk, k0, iz_0, inb01, hb, lgc]
  · simp only [i182_1308, i182_1309, i182_1310, i182_1312, i182_1313, i182_1314, i182_1315, i182_1316, i182_1319, i182_1321, i182_1322, i182_1323, i182_1325, i182_1326, i182_1327, i182_1328, i182_1331, i182_1333, i182_1334, i182_1337, i182_1339, i182_1342, i182_1343, i182_1344, i182_1346, i182_1349, i182_1350, i182_1351, i182_1352, i182_1354, i182_1355, i182_1356, i182_1359, i182_1360, i182_1361, in88, i88_0, i88_1, i88_4, nl_i, nl_r, nl_0, nl_j, nb0, nb1, nbI, orv_s, konN_v, konN_n, konN_e, true_and, and_true, and_self, if_true, if_false, ite_true, ite_false, isR_ref, true_or, or_true, bI_T, bI_F, bI_Fb, i1z, Bool.false_eq_true, mk0, mk140, mk155, ml155, mj155, isR_s, inbT (show i + 1 < L by omega) hL, zn_nI (show i + 1 < 2 ^ 31 by omega), nI_1, nI_p2, nI_p3, nI_p4, nI_p5, p1, p2, xc1, xc2, r1, r2, mf140, hk, k0]
theorem lc_25 (hG : GRc c) (hX1 : hX c.1 = (L, xs)) (hi : i + 6 ≤ L) (hL : L < 2 ^ 31) : LC L xs i 1364 c := by
  obtain ⟨h, T, U, S, A, J, G⟩ := c
  obtain ⟨v, c1, c2, g, r1, r2⟩ := o_undo (U := U) (J := J)  hG
  refine ⟨c2, g, fun d Q l5 l6 => ⟨l5, l6, ?_⟩⟩
  simp only [i182_1364, i182_1365, i182_1368, i182_1369, i182_1372, i182_1375, i182_1376, nl_i, nl_r, nl_0, nl_j, nb0, nb1, nbI, orv_s, konN_v, konN_n, konN_e, true_and, and_true, and_self, if_true, if_false, ite_true, ite_false, isR_ref, true_or, or_true, bI_T, bI_F, bI_Fb, i1z, Bool.false_eq_true, mk0, mk140, mk155, ml155, mj155, isR_s, r1, r2]
theorem lc_26 (hG : GRc c) (hX1 : hX c.1 = (L, xs)) (hi : i + 6 ≤ L) (hL : L < 2 ^ 31) : LC L xs i 1377 c := by
  obtain ⟨h, T, U, S, A, J, G⟩ := c
  obtain ⟨v, c1, c2, g, r1, r2⟩ := o_checksum (U := U) (J := J)  hG
  refine ⟨c2, g, fun d Q l5 l6 => ⟨l5, l6, ?_⟩⟩
  simp only [i182_1377, i182_1378, i182_1381, i182_1382, i182_1385, i182_1386, i182_1389, i182_1390, nl_i, nl_r, nl_0, nl_j, nb0, nb1, nbI, orv_s, konN_v, konN_n, konN_e, true_and, and_true, and_self, if_true, if_false, ite_true, ite_false, isR_ref, true_or, or_true, bI_T, bI_F, bI_Fb, i1z, Bool.false_eq_true, mk0, mk140, mk155, ml155, mj155, isR_s, r1, r2, lgc]
end LW
