/-! READING: tokens, as the class sees them -/
theorem bI_T [Decidable True] : bI True = 1 := bI_t trivial
theorem bI_F [Decidable False] : bI False = 0 := bI_f not_false
theorem bI_Fb [Decidable (false = true)] : bI (false = true) = 0 := bI_f Bool.false_ne_true
def runF (P : Int32 → Bool) (g : Nat → Int32) : Nat → Nat → Nat
  | 0, p => p
  | m + 1, p => if P (g p) = true then runF P g m (p + 1) else p
def isSp (c : Int32) : Bool := decide (c = 32)
def isDg (c : Int32) : Bool := decide (48 ≤ c ∧ c ≤ 57)
def isLt (c : Int32) : Bool := decide (97 ≤ c ∧ c ≤ 122)
def skT (g : Nat → Int32) (n p : Nat) : Nat := runF isSp g (n - p) p
def kdT (g : Nat → Int32) (n p : Nat) : Int32 := if n ≤ p then 0 else if isDg (g p) = true then 1 else if isLt (g p) = true then 2 else 3
def teT (g : Nat → Int32) (n p : Nat) : Nat := if n ≤ p then p else if isDg (g p) = true then runF isDg g (n - p) p else if isLt (g p) = true then runF isLt g (n - p) p else p + 1
def nxT (g : Nat → Int32) (n p : Nat) : Nat := skT g n (teT g n p)
def rd (g : Nat → Int32) (n p : Nat) (nu ec hs : Int32) (sc : Nat) : Nat → Int32
  | 2 => nI n
  | 3 => kdT g n p
  | 4 => nI p
  | 5 => nI (teT g n p)
  | 6 => nu
  | 7 => ec
  | 8 => -1
  | 10 => hs
  | 12 => nI sc
  | _ => 0
theorem runF_le {P : Int32 → Bool} {g : Nat → Int32} : ∀ m p, p ≤ runF P g m p ∧ runF P g m p ≤ p + m
  | 0, p => ⟨Nat.le_refl _, Nat.le_refl _⟩
  | m + 1, p => by
    have := runF_le (P := P) (g := g) m (p + 1)
    rw [runF]
    split <;> omega
theorem runF_in {P : Int32 → Bool} {g : Nat → Int32} : ∀ m p k, p ≤ k → k < runF P g m p → P (g k) = true
  | 0, p, k, h1, h2 => absurd h2 (by rw [runF]; omega)
  | m + 1, p, k, h1, h2 => by
    rw [runF] at h2
    by_cases hp : P (g p) = true
    · rw [if_pos hp] at h2
      by_cases e : k = p
      · rw [e]; exact hp
      · exact runF_in m (p + 1) k (by omega) h2
    · rw [if_neg hp] at h2
      omega
theorem runF_out {P : Int32 → Bool} {g : Nat → Int32} : ∀ m p, runF P g m p < p + m → ¬ P (g (runF P g m p)) = true
  | 0, p, h => absurd h (by rw [runF]; omega)
  | m + 1, p, h => by
    rw [runF] at h ⊢
    by_cases hp : P (g p) = true
    · rw [if_pos hp] at h ⊢
      exact runF_out m (p + 1) (by omega)
    · rw [if_neg hp]
      exact hp
theorem skT_le {g : Nat → Int32} {n p : Nat} (hp : p ≤ n) : p ≤ skT g n p ∧ skT g n p ≤ n := by
  have := runF_le (P := isSp) (g := g) (n - p) p
  unfold skT
  omega
theorem teT_le {g : Nat → Int32} {n p : Nat} (hp : p ≤ n) : p ≤ teT g n p ∧ teT g n p ≤ n := by
  unfold teT
  split
  · omega
  · split
    · have := runF_le (P := isDg) (g := g) (n - p) p
      omega
    · split
      · have := runF_le (P := isLt) (g := g) (n - p) p
        omega
      · omega
theorem nxT_le {g : Nat → Int32} {n p : Nat} (hp : p ≤ n) : p ≤ nxT g n p ∧ nxT g n p ≤ n := by
  have h1 := teT_le (g := g) hp
  have h2 := skT_le (g := g) h1.2
  unfold nxT
  omega
theorem teT_lt {g : Nat → Int32} {n p : Nat} (hp : p < n) : p + 1 ≤ teT g n p := by
  unfold teT
  rw [if_neg (by omega)]
  obtain ⟨m, hm⟩ : ∃ m, n - p = m + 1 := ⟨n - p - 1, by omega⟩
  split
  · rename_i h
    rw [hm, runF, if_pos h]
    exact (runF_le m (p + 1)).1
  · split
    · rename_i h
      rw [hm, runF, if_pos h]
      exact (runF_le m (p + 1)).1
    · omega
theorem nxT_lt {g : Nat → Int32} {n p : Nat} (hp : p < n) : p + 1 ≤ nxT g n p := by
  have h1 := teT_lt (g := g) hp
  have h2 := teT_le (g := g) (n := n) (p := p) (by omega)
  have h3 := skT_le (g := g) h2.2
  unfold nxT
  omega
section RD
variable {g r : Nat → Int32} {n p : Nat} {nu ec hs v : Int32} {sc k : Nat}
theorem rd_2 : rd g n p nu ec hs sc 2 = nI n := rfl
theorem rd_3 : rd g n p nu ec hs sc 3 = kdT g n p := rfl
theorem rd_4 : rd g n p nu ec hs sc 4 = nI p := rfl
theorem rd_5 : rd g n p nu ec hs sc 5 = nI (teT g n p) := rfl
theorem rd_6 : rd g n p nu ec hs sc 6 = nu := rfl
theorem rd_7 : rd g n p nu ec hs sc 7 = ec := rfl
theorem rd_8 : rd g n p nu ec hs sc 8 = -1 := rfl
theorem rd_10 : rd g n p nu ec hs sc 10 = hs := rfl
theorem rd_12 : rd g n p nu ec hs sc 12 = nI sc := rfl
theorem rd_ne {j : Nat} {a b : Nat → Int32} (h : ∀ i, ¬ i = j → a i = b i) (hj : v = b j) : upf a j v = b := by
  funext i
  unfold upf
  split
  · rename_i e; rw [e]; exact hj
  · rename_i e; exact h i e
theorem rd_u6 : upf (rd g n p nu ec hs sc) 6 v = rd g n p v ec hs sc := rd_ne (fun i h => match i with
  | 0 | 1 | 2 | 3 | 4 | 5 | 7 | 8 | 9 | 10 | 11 | 12 => rfl
  | 6 => absurd rfl h
  | _ + 13 => rfl) rfl
theorem rd_u10 : upf (rd g n p nu ec hs sc) 10 v = rd g n p nu ec v sc := rd_ne (fun i h => match i with
  | 0 | 1 | 2 | 3 | 4 | 5 | 6 | 7 | 8 | 9 | 11 | 12 => rfl
  | 10 => absurd rfl h
  | _ + 13 => rfl) rfl
theorem rd_u12 : upf (rd g n p nu ec hs sc) 12 (nI k) = rd g n p nu ec hs k := rd_ne (fun i h => match i with
  | 0 | 1 | 2 | 3 | 4 | 5 | 6 | 7 | 8 | 9 | 10 | 11 => rfl
  | 12 => absurd rfl h
  | _ + 13 => rfl) rfl
theorem rd_tk : upf (upf (upf (rd g n k nu ec hs sc) 4 (nI p)) 5 (nI (teT g n p))) 3 (kdT g n p) = rd g n p nu ec hs sc := by
  funext i
  unfold upf
  match i with
  | 0 | 1 | 2 | 3 | 4 | 5 | 6 | 7 | 8 | 9 | 10 | 11 | 12 => rfl
  | _ + 13 => rfl
theorem upf_comm {a b : Nat} {x y : Int32} (h : ¬ a = b) : upf (upf r a x) b y = upf (upf r b y) a x := by
  funext i
  unfold upf
  by_cases e1 : i = a
  · subst e1; rw [if_neg h, if_pos rfl, if_pos rfl]
  · rw [if_neg e1, if_neg e1]
end RD
theorem kdT_end {g : Nat → Int32} {n p : Nat} (h : n ≤ p) : kdT g n p = 0 ∧ teT g n p = p := ⟨if_pos h, if_pos h⟩
theorem kdT_dg {g : Nat → Int32} {n p : Nat} (h : ¬ n ≤ p) (hd : isDg (g p) = true) : kdT g n p = 1 ∧ teT g n p = runF isDg g (n - p) p := ⟨(if_neg h).trans (if_pos hd), (if_neg h).trans (if_pos hd)⟩
theorem kdT_lt {g : Nat → Int32} {n p : Nat} (h : ¬ n ≤ p) (hd : ¬ isDg (g p) = true) (hl : isLt (g p) = true) : kdT g n p = 2 ∧ teT g n p = runF isLt g (n - p) p := ⟨(if_neg h).trans ((if_neg hd).trans (if_pos hl)), (if_neg h).trans ((if_neg hd).trans (if_pos hl))⟩
theorem kdT_ot {g : Nat → Int32} {n p : Nat} (h : ¬ n ≤ p) (hd : ¬ isDg (g p) = true) (hl : ¬ isLt (g p) = true) : kdT g n p = 3 ∧ teT g n p = p + 1 := ⟨(if_neg h).trans ((if_neg hd).trans (if_neg hl)), (if_neg h).trans ((if_neg hd).trans (if_neg hl))⟩
section R0
variable {d : Nat} {hh : AH} {h : AH} {T : Nat → Bool} {U S A : Nat → Nat → Int32} {J : Nat → Nat → Int64} {G : Nat → Nat} {K : AO → AH → Prop} {g r : Nat → Int32} {n p e k : Nat} {x y z w nu ec hs : Int32} {sc : Nat}
theorem s_isDigit : EvM d 49 [.int x] hh K = K (.inl (some (.int (bI (isDg x = true))))) hh := by
  simp only [in49, i49_0, i49_1, i49_3, i49_6, i49_7, i49_9, i49_12, i49_13, i49_16, i49_17, nl_i, nl_r, nl_0, nl_j, nb0, nb1, nbI, orv_s, konN_v, konN_n, konN_e, true_and, and_true, and_self, if_true, if_false, ite_true, ite_false, isR_ref, true_or, or_true, isR_null, rg10, rg11, rg12, rg13, rg14, rg15, rg16, rh13, rh14, rh15, rh16, bI_T, bI_F, bI_Fb, i1z, Bool.false_eq_true]
  have hq : (isDg x = true) = (48 ≤ x ∧ x ≤ 57) := by unfold isDg; exact propext decide_eq_true_iff
  simp only [hq]
  by_cases h1 : x < 48
  · rw [if_pos h1, bI_f (fun q => absurd h1 (Int32.not_lt.mpr q.1))]
  · rw [if_neg h1]
    by_cases h2 : 57 < x
    · rw [if_pos h2, bI_f (fun q => absurd h2 (Int32.not_lt.mpr q.2))]
    · rw [if_neg h2, bI_t ⟨Int32.not_lt.mp h1, Int32.not_lt.mp h2⟩]
theorem s_isLetter : EvM d 50 [.int x] hh K = K (.inl (some (.int (bI (isLt x = true))))) hh := by
  simp only [in50, i50_0, i50_1, i50_3, i50_6, i50_7, i50_9, i50_12, i50_13, i50_16, i50_17, nl_i, nl_r, nl_0, nl_j, nb0, nb1, nbI, orv_s, konN_v, konN_n, konN_e, true_and, and_true, and_self, if_true, if_false, ite_true, ite_false, isR_ref, true_or, or_true, isR_null, rg10, rg11, rg12, rg13, rg14, rg15, rg16, rh13, rh14, rh15, rh16, bI_T, bI_F, bI_Fb, i1z, Bool.false_eq_true]
  have hq : (isLt x = true) = (97 ≤ x ∧ x ≤ 122) := by unfold isLt; exact propext decide_eq_true_iff
  simp only [hq]
  by_cases h1 : x < 97
  · rw [if_pos h1, bI_f (fun q => absurd h1 (Int32.not_lt.mpr q.1))]
  · rw [if_neg h1]
    by_cases h2 : 122 < x
    · rw [if_pos h2, bI_f (fun q => absurd h2 (Int32.not_lt.mpr q.2))]
    · rw [if_neg h2, bI_t ⟨Int32.not_lt.mp h1, Int32.not_lt.mp h2⟩]
theorem s_fail : EvM d 34 [.ref 13, .int x] (MH h T U (pS S 13 r) A J G) K = K (.inl (some (.int 0))) (MH h T U (pS S 13 (upf (upf r 7 x) 8 (r 4))) A J G) := by
  simp only [in34, i34_0, i34_1, i34_2, i34_5, i34_6, i34_7, i34_10, i34_13, i34_14, nl_i, nl_r, nl_0, nl_j, nb0, nb1, nbI, orv_s, konN_v, konN_n, konN_e, true_and, and_true, and_self, if_true, if_false, ite_true, ite_false, isR_ref, true_or, or_true, isR_null, rg10, rg11, rg12, rg13, rg14, rg15, rg16, rh13, rh14, rh15, rh16, bI_T, bI_F, bI_Fb, i1z, Bool.false_eq_true, k_13, k_14, l_14, a_14, wa_14, k_15, l_15, a_15, wa_15, f_13_0, f_13_9, f_13_11, w_13_9, f_13_1, f_13_2, f_13_3, f_13_4, f_13_5, f_13_6, f_13_7, f_13_8, f_13_10, f_13_12, w_13_1, w_13_2, w_13_3, w_13_4, w_13_5, w_13_6, w_13_7, w_13_8, w_13_10, w_13_12, pS_b, pS_up, mh_N, mh_S, mh_X, mh_alH, upf_ne _ _ (show ¬ (4 : Nat) = 7 by decide)]
theorem zn_nI {k : Nat} (hk : k < 2 ^ 31) : Int32.toNatClampNeg (nI k) = k := nI_clamp hk
theorem s_rt1 (hg : A 14 = g) (hn : n ≤ 700) : ∀ m q r, q + m = n → r 2 = nI n → r 4 = nI q → Ev (d + 1) 48 8 [some (.ref 13)] [] (MH h T U (pS S 13 r) A J G) K = Ev (d + 1) 48 46 [some (.ref 13)] [] (MH h T U (pS S 13 (upf r 4 (nI (runF isSp g m q)))) A J G) K
  | 0, q, r, hq, h2, h4 => by
    rw [i48_8]
    simp only [i48_9, i48_12, i48_13, i48_16, i48_19, i48_20, i48_23, i48_24, i48_27, i48_28, i48_30, i48_33, i48_34, i48_35, i48_38, i48_39, i48_40, i48_43, nl_i, nl_r, nl_0, nl_j, nb0, nb1, nbI, orv_s, konN_v, konN_n, konN_e, true_and, and_true, and_self, if_true, if_false, ite_true, ite_false, isR_ref, true_or, or_true, isR_null, rg10, rg11, rg12, rg13, rg14, rg15, rg16, rh13, rh14, rh15, rh16, bI_T, bI_F, bI_Fb, i1z, Bool.false_eq_true, k_13, k_14, l_14, a_14, wa_14, k_15, l_15, a_15, wa_15, f_13_0, f_13_9, f_13_11, w_13_9, f_13_1, f_13_2, f_13_3, f_13_4, f_13_5, f_13_6, f_13_7, f_13_8, f_13_10, f_13_12, w_13_1, w_13_2, w_13_3, w_13_4, w_13_5, w_13_6, w_13_7, w_13_8, w_13_10, w_13_12, pS_b, pS_up, mh_N, mh_S, mh_X, mh_alH, h2, h4, nI_le_zn (show q < 2 ^ 31 by omega), zn_nI (show n < 2 ^ 31 by omega), show ¬ q < n by omega, not_false_eq_true, runF]
    rw [← h4, upf_id]
  | m + 1, q, r, hq, h2, h4 => by
    have ih := s_rt1 hg hn m (q + 1) (upf r 4 (nI (q + 1))) (by omega) h2 rfl
    rw [i48_8]
    simp only [i48_9, i48_12, i48_13, i48_16, i48_19, i48_20, i48_23, i48_24, i48_27, i48_28, i48_30, i48_33, i48_34, i48_35, i48_38, i48_39, i48_40, i48_43, nl_i, nl_r, nl_0, nl_j, nb0, nb1, nbI, orv_s, konN_v, konN_n, konN_e, true_and, and_true, and_self, if_true, if_false, ite_true, ite_false, isR_ref, true_or, or_true, isR_null, rg10, rg11, rg12, rg13, rg14, rg15, rg16, rh13, rh14, rh15, rh16, bI_T, bI_F, bI_Fb, i1z, Bool.false_eq_true, k_13, k_14, l_14, a_14, wa_14, k_15, l_15, a_15, wa_15, f_13_0, f_13_9, f_13_11, w_13_9, f_13_1, f_13_2, f_13_3, f_13_4, f_13_5, f_13_6, f_13_7, f_13_8, f_13_10, f_13_12, w_13_1, w_13_2, w_13_3, w_13_4, w_13_5, w_13_6, w_13_7, w_13_8, w_13_10, w_13_12, pS_b, pS_up, mh_N, mh_S, mh_X, mh_alH, h2, h4, hg, nI_le_zn (show q < 2 ^ 31 by omega), zn_nI (show n < 2 ^ 31 by omega), zn_nI (show q < 2 ^ 31 by omega), show q < n by omega, not_true, inbT (show q < 700 by omega) (show 700 < 2 ^ 31 by omega), ← nI_succ, ih, runF, isSp, decide_eq_true_eq]
    by_cases hs : g q = 32
    · rw [if_pos hs, if_pos hs, upf_upf]
    · rw [if_neg hs, if_neg hs, ← h4, upf_id]
theorem s_rt2 (hg : A 14 = g) (hn : n ≤ 700) : ∀ m q r, q + m = n → r 2 = nI n → r 5 = nI q → Ev (d + 1) 48 93 [some (.ref 13)] [] (MH h T U (pS S 13 r) A J G) K = K (.inl none) (MH h T U (pS S 13 (upf r 5 (nI (runF isDg g m q)))) A J G)
  | 0, q, r, hq, h2, h4 => by
    rw [i48_93]
    simp only [i48_94, i48_97, i48_98, i48_101, i48_104, i48_105, i48_108, i48_109, i48_112, i48_113, i48_116, i48_119, i48_120, i48_121, i48_124, i48_125, i48_126, i48_129, i48_206, nl_i, nl_r, nl_0, nl_j, nb0, nb1, nbI, orv_s, konN_v, konN_n, konN_e, true_and, and_true, and_self, if_true, if_false, ite_true, ite_false, isR_ref, true_or, or_true, isR_null, rg10, rg11, rg12, rg13, rg14, rg15, rg16, rh13, rh14, rh15, rh16, bI_T, bI_F, bI_Fb, i1z, Bool.false_eq_true, k_13, k_14, l_14, a_14, wa_14, k_15, l_15, a_15, wa_15, f_13_0, f_13_9, f_13_11, w_13_9, f_13_1, f_13_2, f_13_3, f_13_4, f_13_5, f_13_6, f_13_7, f_13_8, f_13_10, f_13_12, w_13_1, w_13_2, w_13_3, w_13_4, w_13_5, w_13_6, w_13_7, w_13_8, w_13_10, w_13_12, pS_b, pS_up, mh_N, mh_S, mh_X, mh_alH, h2, h4, nI_le_zn (show q < 2 ^ 31 by omega), zn_nI (show n < 2 ^ 31 by omega), show ¬ q < n by omega, not_false_eq_true, runF]
    rw [← h4, upf_id]
  | m + 1, q, r, hq, h2, h4 => by
    have ih := s_rt2 hg hn m (q + 1) (upf r 5 (nI (q + 1))) (by omega) h2 rfl
    rw [i48_93]
    simp only [i48_94, i48_97, i48_98, i48_101, i48_104, i48_105, i48_108, i48_109, i48_112, i48_113, i48_116, i48_119, i48_120, i48_121, i48_124, i48_125, i48_126, i48_129, i48_206, nl_i, nl_r, nl_0, nl_j, nb0, nb1, nbI, orv_s, konN_v, konN_n, konN_e, true_and, and_true, and_self, if_true, if_false, ite_true, ite_false, isR_ref, true_or, or_true, isR_null, rg10, rg11, rg12, rg13, rg14, rg15, rg16, rh13, rh14, rh15, rh16, bI_T, bI_F, bI_Fb, i1z, Bool.false_eq_true, k_13, k_14, l_14, a_14, wa_14, k_15, l_15, a_15, wa_15, f_13_0, f_13_9, f_13_11, w_13_9, f_13_1, f_13_2, f_13_3, f_13_4, f_13_5, f_13_6, f_13_7, f_13_8, f_13_10, f_13_12, w_13_1, w_13_2, w_13_3, w_13_4, w_13_5, w_13_6, w_13_7, w_13_8, w_13_10, w_13_12, pS_b, pS_up, mh_N, mh_S, mh_X, mh_alH, h2, h4, hg, nI_le_zn (show q < 2 ^ 31 by omega), zn_nI (show n < 2 ^ 31 by omega), zn_nI (show q < 2 ^ 31 by omega), show q < n by omega, not_true, inbT (show q < 700 by omega) (show 700 < 2 ^ 31 by omega), ← nI_succ, ih, runF, s_isDigit, bI_0]
    by_cases hs : isDg (g q) = true
    · rw [if_neg (fun z => z hs), if_pos hs, upf_upf]
    · rw [if_pos hs, if_neg hs, ← h4, upf_id]
theorem s_rt3 (hg : A 14 = g) (hn : n ≤ 700) : ∀ m q r, q + m = n → r 2 = nI n → r 5 = nI q → Ev (d + 1) 48 152 [some (.ref 13)] [] (MH h T U (pS S 13 r) A J G) K = K (.inl none) (MH h T U (pS S 13 (upf r 5 (nI (runF isLt g m q)))) A J G)
  | 0, q, r, hq, h2, h4 => by
    rw [i48_152]
    simp only [i48_153, i48_156, i48_157, i48_160, i48_163, i48_164, i48_167, i48_168, i48_171, i48_172, i48_175, i48_178, i48_179, i48_180, i48_183, i48_184, i48_185, i48_188, i48_206, nl_i, nl_r, nl_0, nl_j, nb0, nb1, nbI, orv_s, konN_v, konN_n, konN_e, true_and, and_true, and_self, if_true, if_false, ite_true, ite_false, isR_ref, true_or, or_true, isR_null, rg10, rg11, rg12, rg13, rg14, rg15, rg16, rh13, rh14, rh15, rh16, bI_T, bI_F, bI_Fb, i1z, Bool.false_eq_true, k_13, k_14, l_14, a_14, wa_14, k_15, l_15, a_15, wa_15, f_13_0, f_13_9, f_13_11, w_13_9, f_13_1, f_13_2, f_13_3, f_13_4, f_13_5, f_13_6, f_13_7, f_13_8, f_13_10, f_13_12, w_13_1, w_13_2, w_13_3, w_13_4, w_13_5, w_13_6, w_13_7, w_13_8, w_13_10, w_13_12, pS_b, pS_up, mh_N, mh_S, mh_X, mh_alH, h2, h4, nI_le_zn (show q < 2 ^ 31 by omega), zn_nI (show n < 2 ^ 31 by omega), show ¬ q < n by omega, not_false_eq_true, runF]
    rw [← h4, upf_id]
  | m + 1, q, r, hq, h2, h4 => by
    have ih := s_rt3 hg hn m (q + 1) (upf r 5 (nI (q + 1))) (by omega) h2 rfl
    rw [i48_152]
    simp only [i48_153, i48_156, i48_157, i48_160, i48_163, i48_164, i48_167, i48_168, i48_171, i48_172, i48_175, i48_178, i48_179, i48_180, i48_183, i48_184, i48_185, i48_188, i48_206, nl_i, nl_r, nl_0, nl_j, nb0, nb1, nbI, orv_s, konN_v, konN_n, konN_e, true_and, and_true, and_self, if_true, if_false, ite_true, ite_false, isR_ref, true_or, or_true, isR_null, rg10, rg11, rg12, rg13, rg14, rg15, rg16, rh13, rh14, rh15, rh16, bI_T, bI_F, bI_Fb, i1z, Bool.false_eq_true, k_13, k_14, l_14, a_14, wa_14, k_15, l_15, a_15, wa_15, f_13_0, f_13_9, f_13_11, w_13_9, f_13_1, f_13_2, f_13_3, f_13_4, f_13_5, f_13_6, f_13_7, f_13_8, f_13_10, f_13_12, w_13_1, w_13_2, w_13_3, w_13_4, w_13_5, w_13_6, w_13_7, w_13_8, w_13_10, w_13_12, pS_b, pS_up, mh_N, mh_S, mh_X, mh_alH, h2, h4, hg, nI_le_zn (show q < 2 ^ 31 by omega), zn_nI (show n < 2 ^ 31 by omega), zn_nI (show q < 2 ^ 31 by omega), show q < n by omega, not_true, inbT (show q < 700 by omega) (show 700 < 2 ^ 31 by omega), ← nI_succ, ih, runF, s_isLetter, bI_0]
    by_cases hs : isLt (g q) = true
    · rw [if_neg (fun z => z hs), if_pos hs, upf_upf]
    · rw [if_pos hs, if_neg hs, ← h4, upf_id]
/-- readToken, from any state whose token ended at e -/
theorem s_readToken (hg : A 14 = g) (hn : n ≤ 700) (he : e ≤ n) (h2 : r 2 = nI n) (h5 : r 5 = nI e) : EvM (d + 1) 48 [.ref 13] (MH h T U (pS S 13 r) A J G) K = K (.inl none) (MH h T U (pS S 13 (upf (upf (upf r 4 (nI (skT g n e))) 5 (nI (teT g n (skT g n e)))) 3 (kdT g n (skT g n e)))) A J G) := by
  have hsk := skT_le (g := g) he
  have e1 := s_rt1 (d := d) (h := h) (T := T) (U := U) (S := S) (J := J) (G := G) (K := K) hg hn (n - e) e (upf r 4 (nI e)) (by omega) h2 rfl
  rw [upf_upf] at e1
  simp only [i48_0, i48_1, i48_2, i48_5, in48, nl_i, nl_r, nl_0, nl_j, nb0, nb1, nbI, orv_s, konN_v, konN_n, konN_e, true_and, and_true, and_self, if_true, if_false, ite_true, ite_false, isR_ref, true_or, or_true, isR_null, rg10, rg11, rg12, rg13, rg14, rg15, rg16, rh13, rh14, rh15, rh16, bI_T, bI_F, bI_Fb, i1z, Bool.false_eq_true, k_13, k_14, l_14, a_14, wa_14, k_15, l_15, a_15, wa_15, f_13_0, f_13_9, f_13_11, w_13_9, f_13_1, f_13_2, f_13_3, f_13_4, f_13_5, f_13_6, f_13_7, f_13_8, f_13_10, f_13_12, w_13_1, w_13_2, w_13_3, w_13_4, w_13_5, w_13_6, w_13_7, w_13_8, w_13_10, w_13_12, pS_b, pS_up, mh_N, mh_S, mh_X, mh_alH, h5]
  rw [e1]
  show Ev (d + 1) 48 46 [some (.ref 13)] [] (MH h T U (pS S 13 (upf r 4 (nI (skT g n e)))) A J G) K = _
  generalize skT g n e = q at hsk ⊢
  have hq : q < 2 ^ 31 := by omega
  have hn2 : n < 2 ^ 31 := by omega
  have q2 : ∀ v, (upf (upf r 4 (nI q)) 5 v) 2 = nI n := fun v => h2
  have q4 : ∀ v, (upf (upf r 4 (nI q)) 5 v) 4 = nI q := fun v => rfl
  have q4' : (upf r 4 (nI q)) 4 = nI q := rfl
  by_cases h1 : n ≤ q
  · have hk := kdT_end (g := g) h1
    simp only [i48_46, i48_47, i48_48, i48_51, i48_54, i48_55, i48_58, i48_59, i48_62, i48_65, i48_66, i48_67, i48_70, i48_206, nl_i, nl_r, nl_0, nl_j, nb0, nb1, nbI, orv_s, konN_v, konN_n, konN_e, true_and, and_true, and_self, if_true, if_false, ite_true, ite_false, isR_ref, true_or, or_true, isR_null, rg10, rg11, rg12, rg13, rg14, rg15, rg16, rh13, rh14, rh15, rh16, bI_T, bI_F, bI_Fb, i1z, Bool.false_eq_true, k_13, k_14, l_14, a_14, wa_14, k_15, l_15, a_15, wa_15, f_13_0, f_13_9, f_13_11, w_13_9, f_13_1, f_13_2, f_13_3, f_13_4, f_13_5, f_13_6, f_13_7, f_13_8, f_13_10, f_13_12, w_13_1, w_13_2, w_13_3, w_13_4, w_13_5, w_13_6, w_13_7, w_13_8, w_13_10, w_13_12, pS_b, pS_up, mh_N, mh_S, mh_X, mh_alH, q2, q4, q4', nI_lt_zn hq, zn_nI hn2, show ¬ q < n by omega, hk.1, hk.2]
  · have hlt : q < n := by omega
    have hin := inbT (show q < 700 by omega) (show 700 < 2 ^ 31 by omega)
    by_cases hd : isDg (g q) = true
    · have hk := kdT_dg h1 hd
      have k1 := s_rt2 (d := d) (h := h) (T := T) (U := U) (S := S) (J := J) (G := G) (K := K) hg hn (n - q) q (upf (upf (upf r 4 (nI q)) 5 (nI q)) 3 1) (by omega) h2 rfl
      simp only [i48_46, i48_47, i48_48, i48_51, i48_54, i48_55, i48_58, i48_59, i48_62, i48_65, i48_66, i48_67, i48_70, i48_73, i48_74, i48_77, i48_78, i48_81, i48_82, i48_85, i48_88, i48_89, i48_90, nl_i, nl_r, nl_0, nl_j, nb0, nb1, nbI, orv_s, konN_v, konN_n, konN_e, true_and, and_true, and_self, if_true, if_false, ite_true, ite_false, isR_ref, true_or, or_true, isR_null, rg10, rg11, rg12, rg13, rg14, rg15, rg16, rh13, rh14, rh15, rh16, bI_T, bI_F, bI_Fb, i1z, Bool.false_eq_true, k_13, k_14, l_14, a_14, wa_14, k_15, l_15, a_15, wa_15, f_13_0, f_13_9, f_13_11, w_13_9, f_13_1, f_13_2, f_13_3, f_13_4, f_13_5, f_13_6, f_13_7, f_13_8, f_13_10, f_13_12, w_13_1, w_13_2, w_13_3, w_13_4, w_13_5, w_13_6, w_13_7, w_13_8, w_13_10, w_13_12, pS_b, pS_up, mh_N, mh_S, mh_X, mh_alH, q2, q4, q4', hg, nI_lt_zn hq, zn_nI hn2, zn_nI hq, hlt, hin, s_isDigit, bI_t hd, i1z, k1, hk.1, hk.2]
      rw [upf_comm (show ¬ 3 = 5 by decide), upf_upf]
    · by_cases hl : isLt (g q) = true
      · have hk := kdT_lt h1 hd hl
        have k1 := s_rt3 (d := d) (h := h) (T := T) (U := U) (S := S) (J := J) (G := G) (K := K) hg hn (n - q) q (upf (upf (upf r 4 (nI q)) 5 (nI q)) 3 2) (by omega) h2 rfl
        simp only [i48_46, i48_47, i48_48, i48_51, i48_54, i48_55, i48_58, i48_59, i48_62, i48_65, i48_66, i48_67, i48_70, i48_73, i48_74, i48_77, i48_78, i48_81, i48_82, i48_85, i48_132, i48_133, i48_136, i48_137, i48_140, i48_141, i48_144, i48_147, i48_148, i48_149, nl_i, nl_r, nl_0, nl_j, nb0, nb1, nbI, orv_s, konN_v, konN_n, konN_e, true_and, and_true, and_self, if_true, if_false, ite_true, ite_false, isR_ref, true_or, or_true, isR_null, rg10, rg11, rg12, rg13, rg14, rg15, rg16, rh13, rh14, rh15, rh16, bI_T, bI_F, bI_Fb, i1z, Bool.false_eq_true, k_13, k_14, l_14, a_14, wa_14, k_15, l_15, a_15, wa_15, f_13_0, f_13_9, f_13_11, w_13_9, f_13_1, f_13_2, f_13_3, f_13_4, f_13_5, f_13_6, f_13_7, f_13_8, f_13_10, f_13_12, w_13_1, w_13_2, w_13_3, w_13_4, w_13_5, w_13_6, w_13_7, w_13_8, w_13_10, w_13_12, pS_b, pS_up, mh_N, mh_S, mh_X, mh_alH, q2, q4, q4', hg, nI_lt_zn hq, zn_nI hn2, zn_nI hq, hlt, hin, s_isDigit, s_isLetter, bI_f hd, bI_t hl, i1z, k1, hk.1, hk.2]
        rw [upf_comm (show ¬ 3 = 5 by decide), upf_upf]
      · have hk := kdT_ot h1 hd hl
        have q5 : (upf (upf (upf r 4 (nI q)) 5 (nI q)) 3 3) 5 = nI q := rfl
        simp only [i48_46, i48_47, i48_48, i48_51, i48_54, i48_55, i48_58, i48_59, i48_62, i48_65, i48_66, i48_67, i48_70, i48_73, i48_74, i48_77, i48_78, i48_81, i48_82, i48_85, i48_132, i48_133, i48_136, i48_137, i48_140, i48_141, i48_144, i48_147, i48_148, i48_149, i48_191, i48_192, i48_193, i48_196, i48_197, i48_198, i48_201, i48_202, i48_203, i48_206, nl_i, nl_r, nl_0, nl_j, nb0, nb1, nbI, orv_s, konN_v, konN_n, konN_e, true_and, and_true, and_self, if_true, if_false, ite_true, ite_false, isR_ref, true_or, or_true, isR_null, rg10, rg11, rg12, rg13, rg14, rg15, rg16, rh13, rh14, rh15, rh16, bI_T, bI_F, bI_Fb, i1z, Bool.false_eq_true, k_13, k_14, l_14, a_14, wa_14, k_15, l_15, a_15, wa_15, f_13_0, f_13_9, f_13_11, w_13_9, f_13_1, f_13_2, f_13_3, f_13_4, f_13_5, f_13_6, f_13_7, f_13_8, f_13_10, f_13_12, w_13_1, w_13_2, w_13_3, w_13_4, w_13_5, w_13_6, w_13_7, w_13_8, w_13_10, w_13_12, pS_b, pS_up, mh_N, mh_S, mh_X, mh_alH, q2, q4, q4', q5, hg, nI_lt_zn hq, zn_nI hn2, zn_nI hq, hlt, hin, s_isDigit, s_isLetter, bI_f hd, bI_f hl, i1z, ← nI_succ, hk.1, hk.2]
        rw [upf_comm (show ¬ 3 = 5 by decide), upf_upf]
theorem s_tok (hg : A 14 = g) (hn : n ≤ 700) (hp : p ≤ n) : EvM (d + 1) 48 [.ref 13] (MH h T U (pS S 13 (rd g n p nu ec hs sc)) A J G) K = K (.inl none) (MH h T U (pS S 13 (rd g n (nxT g n p) nu ec hs sc)) A J G) := by
  rw [s_readToken hg hn (teT_le hp).2 rd_2 rd_5]
  show K (.inl none) (MH h T U (pS S 13 (upf (upf (upf (rd g n p nu ec hs sc) 4 (nI (nxT g n p))) 5 (nI (teT g n (nxT g n p)))) 3 (kdT g n (nxT g n p)))) A J G) = _
  rw [rd_tk]
/-- is the token at p this sign? -/
def sgB (g : Nat → Int32) (n p : Nat) (c : Int32) : Bool := decide (kdT g n p = 3) && decide (g p = c)
theorem kdT_in {g : Nat → Int32} {n p : Nat} (h : ¬ kdT g n p = 0) : p < n := by
  rcases Nat.lt_or_ge p n with q | q
  · exact q
  · exact absurd (kdT_end q).1 h
theorem s_signIs (hg : A 14 = g) (hn : n ≤ 700) : EvM d 46 [.ref 13, .int x] (MH h T U (pS S 13 (rd g n p nu ec hs sc)) A J G) K = K (.inl (some (.int (bI (sgB g n p x = true))))) (MH h T U (pS S 13 (rd g n p nu ec hs sc)) A J G) := by
  unfold sgB
  by_cases h1 : kdT g n p = 3
  · have hp : p < n := kdT_in (by rw [h1]; decide)
    simp only [in46, i46_0, i46_1, i46_4, i46_5, i46_8, i46_9, i46_12, i46_13, i46_16, i46_17, i46_18, i46_21, i46_22, i46_25, i46_26, nl_i, nl_r, nl_0, nl_j, nb0, nb1, nbI, orv_s, konN_v, konN_n, konN_e, true_and, and_true, and_self, if_true, if_false, ite_true, ite_false, isR_ref, true_or, or_true, isR_null, rg10, rg11, rg12, rg13, rg14, rg15, rg16, rh13, rh14, rh15, rh16, bI_T, bI_F, bI_Fb, i1z, Bool.false_eq_true, k_13, k_14, l_14, a_14, wa_14, k_15, l_15, a_15, wa_15, f_13_0, f_13_9, f_13_11, w_13_9, f_13_1, f_13_2, f_13_3, f_13_4, f_13_5, f_13_6, f_13_7, f_13_8, f_13_10, f_13_12, w_13_1, w_13_2, w_13_3, w_13_4, w_13_5, w_13_6, w_13_7, w_13_8, w_13_10, w_13_12, pS_b, pS_up, mh_N, mh_S, mh_X, mh_alH, rd_3, rd_4, h1, hg, inbT (show p < 700 by omega) (show 700 < 2 ^ 31 by omega), zn_nI (show p < 2 ^ 31 by omega), decide_true, Bool.true_and, decide_eq_true_eq]
    by_cases h2 : g p = x
    · rw [if_pos h2, bI_t h2]
    · rw [if_neg h2, bI_f h2]
  · simp only [in46, i46_0, i46_1, i46_4, i46_5, i46_8, i46_9, i46_12, i46_13, i46_16, i46_17, i46_18, i46_21, i46_22, i46_25, i46_26, nl_i, nl_r, nl_0, nl_j, nb0, nb1, nbI, orv_s, konN_v, konN_n, konN_e, true_and, and_true, and_self, if_true, if_false, ite_true, ite_false, isR_ref, true_or, or_true, isR_null, rg10, rg11, rg12, rg13, rg14, rg15, rg16, rh13, rh14, rh15, rh16, bI_T, bI_F, bI_Fb, i1z, Bool.false_eq_true, k_13, k_14, l_14, a_14, wa_14, k_15, l_15, a_15, wa_15, f_13_0, f_13_9, f_13_11, w_13_9, f_13_1, f_13_2, f_13_3, f_13_4, f_13_5, f_13_6, f_13_7, f_13_8, f_13_10, f_13_12, w_13_1, w_13_2, w_13_3, w_13_4, w_13_5, w_13_6, w_13_7, w_13_8, w_13_10, w_13_12, pS_b, pS_up, mh_N, mh_S, mh_X, mh_alH, rd_3, rd_4, h1, decide_false, Bool.false_and]
    all_goals rfl
theorem s_takeSign (hg : A 14 = g) (hn : n ≤ 700) (hp : p ≤ n) : EvM (d + 2) 45 [.ref 13, .int x] (MH h T U (pS S 13 (rd g n p nu ec hs sc)) A J G) K =
    if sgB g n p x = true then K (.inl (some (.int 1))) (MH h T U (pS S 13 (rd g n (nxT g n p) nu ec hs sc)) A J G) else K (.inl (some (.int 0))) (MH h T U (pS S 13 (upf (upf (rd g n p nu ec hs sc) 7 (-2)) 8 (nI p))) A J G) := by
  by_cases h1 : sgB g n p x = true
  · simp only [in45, i45_0, i45_1, i45_2, i45_5, i45_8, i45_9, i45_11, i45_14, i45_15, i45_16, i45_19, i45_20, nl_i, nl_r, nl_0, nl_j, nb0, nb1, nbI, orv_s, konN_v, konN_n, konN_e, true_and, and_true, and_self, if_true, if_false, ite_true, ite_false, isR_ref, true_or, or_true, isR_null, rg10, rg11, rg12, rg13, rg14, rg15, rg16, rh13, rh14, rh15, rh16, bI_T, bI_F, bI_Fb, i1z, Bool.false_eq_true, k_13, k_14, l_14, a_14, wa_14, k_15, l_15, a_15, wa_15, f_13_0, f_13_9, f_13_11, w_13_9, f_13_1, f_13_2, f_13_3, f_13_4, f_13_5, f_13_6, f_13_7, f_13_8, f_13_10, f_13_12, w_13_1, w_13_2, w_13_3, w_13_4, w_13_5, w_13_6, w_13_7, w_13_8, w_13_10, w_13_12, pS_b, pS_up, mh_N, mh_S, mh_X, mh_alH, s_signIs hg hn, s_tok hg hn hp, bI_t h1, i1z, h1]
  · simp only [in45, i45_0, i45_1, i45_2, i45_5, i45_8, i45_9, i45_11, i45_14, i45_15, i45_16, i45_19, i45_20, nl_i, nl_r, nl_0, nl_j, nb0, nb1, nbI, orv_s, konN_v, konN_n, konN_e, true_and, and_true, and_self, if_true, if_false, ite_true, ite_false, isR_ref, true_or, or_true, isR_null, rg10, rg11, rg12, rg13, rg14, rg15, rg16, rh13, rh14, rh15, rh16, bI_T, bI_F, bI_Fb, i1z, Bool.false_eq_true, k_13, k_14, l_14, a_14, wa_14, k_15, l_15, a_15, wa_15, f_13_0, f_13_9, f_13_11, w_13_9, f_13_1, f_13_2, f_13_3, f_13_4, f_13_5, f_13_6, f_13_7, f_13_8, f_13_10, f_13_12, w_13_1, w_13_2, w_13_3, w_13_4, w_13_5, w_13_6, w_13_7, w_13_8, w_13_10, w_13_12, pS_b, pS_up, mh_N, mh_S, mh_X, mh_alH, s_signIs hg hn, s_fail, rd_4, bI_f h1, h1]
theorem s_putStep (hc : sc < 700) {st : Nat → Int32} : EvM d 43 [.ref 13, .int x] (MH h T U (pS S 13 (rd g n p nu ec hs sc)) (upf A 15 st) J G) K = K (.inl none) (MH h T U (pS S 13 (rd g n p nu ec hs (sc + 1))) (upf A 15 (upd st sc x)) J G) := by
  have z7 : Int32.toNatClampNeg 700 = 700 := by decide
  simp only [in43, i43_0, i43_1, i43_4, i43_7, i43_10, i43_11, i43_14, i43_15, i43_18, i43_19, i43_20, i43_21, i43_22, i43_25, i43_26, i43_27, i43_30, nl_i, nl_r, nl_0, nl_j, nb0, nb1, nbI, orv_s, konN_v, konN_n, konN_e, true_and, and_true, and_self, if_true, if_false, ite_true, ite_false, isR_ref, true_or, or_true, isR_null, rg10, rg11, rg12, rg13, rg14, rg15, rg16, rh13, rh14, rh15, rh16, bI_T, bI_F, bI_Fb, i1z, Bool.false_eq_true, k_13, k_14, l_14, a_14, wa_14, k_15, l_15, a_15, wa_15, f_13_0, f_13_9, f_13_11, w_13_9, f_13_1, f_13_2, f_13_3, f_13_4, f_13_5, f_13_6, f_13_7, f_13_8, f_13_10, f_13_12, w_13_1, w_13_2, w_13_3, w_13_4, w_13_5, w_13_6, w_13_7, w_13_8, w_13_10, w_13_12, pS_b, pS_up, mh_N, mh_S, mh_X, mh_alH, rd_12, nI_le_zn (show sc < 2 ^ 31 by omega), z7, hc, not_true, inbT hc (show 700 < 2 ^ 31 by omega), zn_nI (show sc < 2 ^ 31 by omega), ← nI_succ, rd_u12, upf_same, upf_upf]
end R0
