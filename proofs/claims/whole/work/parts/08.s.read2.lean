/-! READING: tokens, as the reference sees them -/
def rm (n x dp : Nat) (ob ud sn : Int32) : Nat → Int32
  | 3 => nI n
  | 4 => nI x
  | 6 => -1
  | 7 => ob
  | 12 => ud
  | 13 => nI dp
  | 14 => sn
  | _ => 0
def bA (g : Nat → Int32) (n k : Nat) : Int32 := if k < n then g k else -1
def nmR (g : Nat → Int32) : Nat → Nat → Int32 → Int32
  | 0, _, v => v
  | m + 1, p, v => nmR g m (p + 1) (if 1000000 < 10 * v + g p - 48 then 1000000 else 10 * v + g p - 48)
theorem bA_lt {g : Nat → Int32} {n k : Nat} (h : k < n) : bA g n k = g k := if_pos h
theorem bA_ge {g : Nat → Int32} {n k : Nat} (h : ¬ k < n) : bA g n k = -1 := if_neg h
theorem isDg_m1 : ¬ isDg (-1) = true := by decide
theorem isLt_m1 : ¬ isLt (-1) = true := by decide
theorem bytJ_lt : ∀ k, k < 6 → ∀ j, j < 9 → j < lenJ.getD k 0 → isLt ((bytJ.getD k []).getD j 0) = true ∧ ¬ isDg ((bytJ.getD k []).getD j 0) = true := by decide +kernel
theorem eqF_all {w : List Int32} {g : Nat → Int32} {p : Nat} : ∀ m j, (eqF w g p j m = true) = ∀ i, j ≤ i → i < j + m → g (p + i) = w.getD i 0
  | 0, j => propext ⟨fun _ i h1 h2 => absurd h2 (by omega), fun _ => rfl⟩
  | m + 1, j => by
    rw [eqF, Bool.and_eq_true, decide_eq_true_eq, eqF_all m (j + 1)]
    refine propext ⟨fun h i h1 h2 => ?_, fun h => ⟨h j (Nat.le_refl _) (by omega), fun i h1 h2 => h i (by omega) (by omega)⟩⟩
    by_cases e : i = j
    · rw [e]; exact h.1
    · exact h.2 i (by omega) (by omega)
theorem wd_iff {g : Nat → Int32} {n p k : Nat} (hk6 : k < 6) (hp : p ≤ n) : (eqF (bytJ.getD k []) (bA g n) p 0 (lenJ.getD k 0) = true ∧ ¬ isLt (bA g n (p + lenJ.getD k 0)) = true) = (wdB g n p k = true) := by
  have hl := lenJ_le k hk6
  unfold wdB
  rw [Bool.and_eq_true, Bool.and_eq_true, decide_eq_true_eq, decide_eq_true_eq, eqF_all, eqF_all]
  refine propext ⟨fun h => ?_, fun h => ?_⟩
  · obtain ⟨h1, h2⟩ := h
    have key : ∀ i, i < lenJ.getD k 0 → p + i < n ∧ g (p + i) = (bytJ.getD k []).getD i 0 := fun i hi => by
      have q := h1 i (Nat.zero_le _) (by omega)
      by_cases hlt : p + i < n
      · rw [bA_lt hlt] at q
        exact ⟨hlt, q⟩
      · rw [bA_ge hlt] at q
        have := (bytJ_lt k hk6 i (by omega) hi).1
        rw [← q] at this
        exact absurd this isLt_m1
    have kl : ∀ i, i < lenJ.getD k 0 → isLt (g (p + i)) = true := fun i hi => by rw [(key i hi).2]; exact (bytJ_lt k hk6 i (by omega) hi).1
    have k0 := key 0 hl.2
    rw [Nat.add_zero] at k0
    have kd := (bytJ_lt k hk6 0 (by omega) hl.2).2
    rw [← k0.2] at kd
    have l0 := kl 0 hl.2
    rw [Nat.add_zero] at l0
    have t := kdT_lt (n := n) (by omega) kd l0
    refine ⟨t.1, ?_, fun i h3 h4 => (key i (by omega)).2⟩
    rw [t.2]
    have r1 := runF_le (P := isLt) (g := g) (n - p) p
    have r2 : ¬ runF isLt g (n - p) p < p + lenJ.getD k 0 := fun z => by
      have q1 := runF_out (P := isLt) (g := g) (n - p) p (by have := (key (runF isLt g (n - p) p - p) (by omega)).1; omega)
      have q2 := kl (runF isLt g (n - p) p - p) (by omega)
      rw [show p + (runF isLt g (n - p) p - p) = runF isLt g (n - p) p by omega] at q2
      exact q1 q2
    have r3 : ¬ p + lenJ.getD k 0 < runF isLt g (n - p) p := fun z => by
      have q1 := runF_in (P := isLt) (g := g) (n - p) p (p + lenJ.getD k 0) (by omega) z
      rw [bA_lt (by omega)] at h2
      exact h2 q1
    omega
  · obtain ⟨h1, h2, h3⟩ := h
    have ht := teT_le (g := g) hp
    have hpn : p < n := kdT_in (by rw [h1]; decide)
    refine ⟨fun i h4 h5 => by rw [bA_lt (by omega)]; exact h3 i h4 h5, ?_⟩
    by_cases hlt : p + lenJ.getD k 0 < n
    · rw [bA_lt hlt]
      by_cases hd : isDg (g p) = true
      · have := (kdT_dg (n := n) (by omega) hd).1
        rw [h1] at this
        exact absurd this (by decide)
      · by_cases hl2 : isLt (g p) = true
        · have t := kdT_lt (n := n) (by omega) hd hl2
          rw [t.2] at h2
          have := runF_out (P := isLt) (g := g) (n - p) p (by omega)
          rw [h2] at this
          exact this
        · have := (kdT_ot (n := n) (by omega) hd hl2).1
          rw [h1] at this
          exact absurd this (by decide)
    · rw [bA_ge hlt]
      exact isLt_m1
theorem kd1_iff {g : Nat → Int32} {n p : Nat} : (kdT g n p = 1) = (isDg (bA g n p) = true) := by
  by_cases h : p < n
  · rw [bA_lt h]
    by_cases hd : isDg (g p) = true
    · rw [(kdT_dg (n := n) (by omega) hd).1]
      exact propext ⟨fun _ => hd, fun _ => rfl⟩
    · by_cases hl : isLt (g p) = true
      · rw [(kdT_lt (n := n) (by omega) hd hl).1]
        exact propext ⟨fun z => absurd z (by decide), fun z => absurd z hd⟩
      · rw [(kdT_ot (n := n) (by omega) hd hl).1]
        exact propext ⟨fun z => absurd z (by decide), fun z => absurd z hd⟩
  · rw [bA_ge h, (kdT_end (g := g) (n := n) (by omega)).1]
    exact propext ⟨fun z => absurd z (by decide), fun z => absurd z isDg_m1⟩
theorem sg_iff {g : Nat → Int32} {n p : Nat} {c : Int32} (hc : ¬ isDg c = true ∧ ¬ isLt c = true ∧ ¬ c = -1) : (sgB g n p c = true) = (bA g n p = c) := by
  unfold sgB
  rw [Bool.and_eq_true, decide_eq_true_eq, decide_eq_true_eq]
  by_cases h : p < n
  · rw [bA_lt h]
    refine propext ⟨fun z => z.2, fun z => ⟨?_, z⟩⟩
    exact (kdT_ot (n := n) (by omega) (by rw [z]; exact hc.1) (by rw [z]; exact hc.2.1)).1
  · rw [bA_ge h, (kdT_end (g := g) (n := n) (by omega)).1]
    exact propext ⟨fun z => absurd z.1 (by decide), fun z => absurd z.symm hc.2.2⟩
section RM
variable {n x y dp e : Nat} {ob ud sn v : Int32}
theorem rm_0 : rm n x dp ob ud sn 0 = 0 := rfl
theorem rm_2 : rm n x dp ob ud sn 2 = 0 := rfl
theorem rm_3 : rm n x dp ob ud sn 3 = nI n := rfl
theorem rm_4 : rm n x dp ob ud sn 4 = nI x := rfl
theorem rm_5 : rm n x dp ob ud sn 5 = 0 := rfl
theorem rm_6 : rm n x dp ob ud sn 6 = -1 := rfl
theorem rm_7 : rm n x dp ob ud sn 7 = ob := rfl
theorem rm_12 : rm n x dp ob ud sn 12 = ud := rfl
theorem rm_13 : rm n x dp ob ud sn 13 = nI dp := rfl
theorem rm_14 : rm n x dp ob ud sn 14 = sn := rfl
theorem rm_u4 : upf (rm n x dp ob ud sn) 4 (nI y) = rm n y dp ob ud sn := rd_ne (fun i h => match i with
  | 0 | 1 | 2 | 3 | 5 | 6 | 7 | 8 | 9 | 10 | 11 | 12 | 13 | 14 => rfl
  | 4 => absurd rfl h
  | _ + 15 => rfl) rfl
theorem rm_u13 : upf (rm n x dp ob ud sn) 13 (nI e) = rm n x e ob ud sn := rd_ne (fun i h => match i with
  | 0 | 1 | 2 | 3 | 4 | 5 | 6 | 7 | 8 | 9 | 10 | 11 | 12 | 14 => rfl
  | 13 => absurd rfl h
  | _ + 15 => rfl) rfl
theorem rm_u14 : upf (rm n x dp ob ud sn) 14 v = rm n x dp ob ud v := rd_ne (fun i h => match i with
  | 0 | 1 | 2 | 3 | 4 | 5 | 6 | 7 | 8 | 9 | 10 | 11 | 12 | 13 => rfl
  | 14 => absurd rfl h
  | _ + 15 => rfl) rfl
end RM
theorem skT_at {g : Nat → Int32} {n p : Nat} (h : p < n) (hs : ¬ g p = 32) : skT g n p = p := by
  unfold skT
  obtain ⟨m, hm⟩ : ∃ m, n - p = m + 1 := ⟨n - p - 1, by omega⟩
  rw [hm, runF, if_neg (by unfold isSp; rw [decide_eq_true_eq]; exact hs)]
theorem skT_sp {g : Nat → Int32} {n p : Nat} (h : p < n) (hs : g p = 32) : skT g n p = skT g n (p + 1) := by
  unfold skT
  obtain ⟨m, hm⟩ : ∃ m, n - p = m + 1 := ⟨n - p - 1, by omega⟩
  rw [hm, runF, if_pos (by unfold isSp; rw [decide_eq_true_eq]; exact hs), show n - (p + 1) = m by omega]
theorem skT_n {g : Nat → Int32} {n p : Nat} (h : ¬ p < n) : skT g n p = p := by
  unfold skT
  rw [show n - p = 0 by omega, runF]
theorem skT_no {g : Nat → Int32} {n p : Nat} (hp : p ≤ n) : ¬ bA g n (skT g n p) = 32 := by
  have := skT_le (g := g) hp
  by_cases h : skT g n p < n
  · rw [bA_lt h]
    have q := runF_out (P := isSp) (g := g) (n - p) p (by unfold skT at h; omega)
    unfold isSp at q
    rw [decide_eq_true_eq] at q
    exact q
  · rw [bA_ge h]; decide
theorem skT_id {g : Nat → Int32} {n p : Nat} (hp : p ≤ n) : skT g n (skT g n p) = skT g n p := by
  have h2 := skT_no (g := g) hp
  by_cases h : skT g n p < n
  · rw [bA_lt h] at h2
    exact skT_at h h2
  · exact skT_n h
section R2
variable {d : Nat} {hh : AH} {h : AH} {T : Nat → Bool} {U S A : Nat → Nat → Int32} {J : Nat → Nat → Int64} {G : Nat → Nat} {K : AO → AH → Prop} {g m D : Nat → Int32} {n p e k j x dp nc : Nat} {u v w ob ud sn lo hi : Int32}
theorem s_in : EvM d 90 [.int u, .int v, .int w] hh K = K (.inl (some (.int (bI (v ≤ u ∧ u ≤ w))))) hh := by
  simp only [in90, i90_0, i90_1, i90_2, i90_5, i90_6, i90_7, i90_10, i90_11, i90_14, i90_15, nl_i, nl_r, nl_0, nl_j, nb0, nb1, nbI, orv_s, konN_v, konN_n, konN_e, true_and, and_true, and_self, if_true, if_false, ite_true, ite_false, isR_ref, true_or, or_true, bI_T, bI_F, bI_Fb, i1z, Bool.false_eq_true]
  by_cases h1 : u < v
  · rw [if_pos h1, bI_f (fun q => absurd h1 (Int32.not_lt.mpr q.1))]
  · rw [if_neg h1]
    by_cases h2 : w < u
    · rw [if_pos h2, bI_f (fun q => absurd h2 (Int32.not_lt.mpr q.2))]
    · rw [if_neg h2, bI_t ⟨Int32.not_lt.mp h1, Int32.not_lt.mp h2⟩]
theorem s_mDigit : EvM (d + 1) 102 [.int u] hh K = K (.inl (some (.int (bI (isDg u = true))))) hh := by
  have hq : (isDg u = true) = (48 ≤ u ∧ u ≤ 57) := by unfold isDg; exact propext decide_eq_true_iff
  simp only [in102, i102_0, i102_1, i102_3, i102_5, i102_8, nl_i, nl_r, nl_0, nl_j, nb0, nb1, nbI, orv_s, konN_v, konN_n, konN_e, true_and, and_true, and_self, if_true, if_false, ite_true, ite_false, isR_ref, true_or, or_true, bI_T, bI_F, bI_Fb, i1z, Bool.false_eq_true, s_in, hq]
theorem s_min : EvM d 91 [.int u, .int v] hh K = K (.inl (some (.int (if u < v then u else v)))) hh := by
  simp only [in91, i91_0, i91_1, i91_2, i91_5, i91_6, i91_9, i91_10, nl_i, nl_r, nl_0, nl_j, nb0, nb1, nbI, orv_s, konN_v, konN_n, konN_e, true_and, and_true, and_self, if_true, if_false, ite_true, ite_false, isR_ref, true_or, or_true, bI_T, bI_F, bI_Fb, i1z, Bool.false_eq_true]
  by_cases h1 : u < v
  · simp only [if_neg (Int32.not_le.mpr h1), if_pos h1]
  · simp only [if_pos (Int32.not_lt.mp h1), if_neg h1]
theorem s_max : EvM d 92 [.int u, .int v] hh K = K (.inl (some (.int (if v < u then u else v)))) hh := by
  simp only [in92, i92_0, i92_1, i92_2, i92_5, i92_6, i92_9, i92_10, nl_i, nl_r, nl_0, nl_j, nb0, nb1, nbI, orv_s, konN_v, konN_n, konN_e, true_and, and_true, and_self, if_true, if_false, ite_true, ite_false, isR_ref, true_or, or_true, bI_T, bI_F, bI_Fb, i1z, Bool.false_eq_true]
  by_cases h1 : v < u
  · simp only [if_neg (Int32.not_le.mpr h1), if_pos h1]
  · simp only [if_pos (Int32.not_lt.mp h1), if_neg h1]
theorem s_byteAt (hg : A 141 = g) (hn : n ≤ 700) (hk : k < 2 ^ 31) : EvM d 98 [.ref 140, .int (nI k)] (MH h T U (pS S 140 (rm n x dp ob ud sn)) A J G) K = K (.inl (some (.int (bA g n k)))) (MH h T U (pS S 140 (rm n x dp ob ud sn)) A J G) := by
  by_cases h1 : k < n
  · simp only [in98, i98_0, i98_1, i98_2, i98_5, i98_8, i98_9, i98_12, i98_13, i98_14, i98_17, i98_18, nl_i, nl_r, nl_0, nl_j, nb0, nb1, nbI, orv_s, konN_v, konN_n, konN_e, true_and, and_true, and_self, if_true, if_false, ite_true, ite_false, isR_ref, true_or, or_true, bI_T, bI_F, bI_Fb, i1z, Bool.false_eq_true, k_140, f_140_1, f_140_8, f_140_9, f_140_10, f_140_11, f_140_15, f_140_0, f_140_2, f_140_3, f_140_4, f_140_5, f_140_6, f_140_7, f_140_12, f_140_13, f_140_14, w_140_0, w_140_2, w_140_3, w_140_4, w_140_5, w_140_6, w_140_7, w_140_12, w_140_13, w_140_14, k_141, l_141, a_141, wa_141, k_142, l_142, a_142, wa_142, k_143, l_143, a_143, wa_143, k_144, l_144, a_144, wa_144, pS_b, pS_up, mh_N, mh_S, mh_X, mh_alH, rm_3, hg, nI_le_zn hk, zn_nI (show n < 2 ^ 31 by omega), h1, not_true, inbT (show k < 700 by omega) (show 700 < 2 ^ 31 by omega), zn_nI hk, bA_lt h1]
  · simp only [in98, i98_0, i98_1, i98_2, i98_5, i98_8, i98_9, i98_12, i98_13, i98_14, i98_17, i98_18, nl_i, nl_r, nl_0, nl_j, nb0, nb1, nbI, orv_s, konN_v, konN_n, konN_e, true_and, and_true, and_self, if_true, if_false, ite_true, ite_false, isR_ref, true_or, or_true, bI_T, bI_F, bI_Fb, i1z, Bool.false_eq_true, k_140, f_140_1, f_140_8, f_140_9, f_140_10, f_140_11, f_140_15, f_140_0, f_140_2, f_140_3, f_140_4, f_140_5, f_140_6, f_140_7, f_140_12, f_140_13, f_140_14, w_140_0, w_140_2, w_140_3, w_140_4, w_140_5, w_140_6, w_140_7, w_140_12, w_140_13, w_140_14, k_141, l_141, a_141, wa_141, k_142, l_142, a_142, wa_142, k_143, l_143, a_143, wa_143, k_144, l_144, a_144, wa_144, pS_b, pS_up, mh_N, mh_S, mh_X, mh_alH, rm_3, hg, nI_le_zn hk, zn_nI (show n < 2 ^ 31 by omega), h1, not_false_eq_true, bA_ge h1]
theorem s_next_loop (hg : A 141 = g) (hn : n ≤ 700) : ∀ m x, x + m = n → Ev (d + 1) 99 0 [some (.ref 140)] [] (MH h T U (pS S 140 (rm n x dp ob ud sn)) A J G) K = K (.inl (some (.int (bA g n (skT g n x))))) (MH h T U (pS S 140 (rm n (skT g n x) dp ob ud sn)) A J G)
  | 0, x, hx => by
    have h1 : ¬ x < n := by omega
    have h32 : ((-1 : Int32) = 32) = False := eq_false (by decide)
    rw [i99_0]
    simp only [i99_1, i99_2, i99_5, i99_8, i99_10, i99_13, i99_14, i99_15, i99_18, i99_19, i99_20, i99_23, i99_26, i99_27, i99_28, i99_31, i99_34, nl_i, nl_r, nl_0, nl_j, nb0, nb1, nbI, orv_s, konN_v, konN_n, konN_e, true_and, and_true, and_self, if_true, if_false, ite_true, ite_false, isR_ref, true_or, or_true, bI_T, bI_F, bI_Fb, i1z, Bool.false_eq_true, k_140, f_140_1, f_140_8, f_140_9, f_140_10, f_140_11, f_140_15, f_140_0, f_140_2, f_140_3, f_140_4, f_140_5, f_140_6, f_140_7, f_140_12, f_140_13, f_140_14, w_140_0, w_140_2, w_140_3, w_140_4, w_140_5, w_140_6, w_140_7, w_140_12, w_140_13, w_140_14, k_141, l_141, a_141, wa_141, k_142, l_142, a_142, wa_142, k_143, l_143, a_143, wa_143, k_144, l_144, a_144, wa_144, pS_b, pS_up, mh_N, mh_S, mh_X, mh_alH, rm_4, s_byteAt hg hn (show x < 2 ^ 31 by omega), bA_ge h1, h32, skT_n h1]
  | m + 1, x, hx => by
    have h1 : x < n := by omega
    have ih := s_next_loop hg hn m (x + 1) (by omega)
    rw [i99_0]
    simp only [i99_1, i99_2, i99_5, i99_8, i99_10, i99_13, i99_14, i99_15, i99_18, i99_19, i99_20, i99_23, i99_26, i99_27, i99_28, i99_31, i99_34, nl_i, nl_r, nl_0, nl_j, nb0, nb1, nbI, orv_s, konN_v, konN_n, konN_e, true_and, and_true, and_self, if_true, if_false, ite_true, ite_false, isR_ref, true_or, or_true, bI_T, bI_F, bI_Fb, i1z, Bool.false_eq_true, k_140, f_140_1, f_140_8, f_140_9, f_140_10, f_140_11, f_140_15, f_140_0, f_140_2, f_140_3, f_140_4, f_140_5, f_140_6, f_140_7, f_140_12, f_140_13, f_140_14, w_140_0, w_140_2, w_140_3, w_140_4, w_140_5, w_140_6, w_140_7, w_140_12, w_140_13, w_140_14, k_141, l_141, a_141, wa_141, k_142, l_142, a_142, wa_142, k_143, l_143, a_143, wa_143, k_144, l_144, a_144, wa_144, pS_b, pS_up, mh_N, mh_S, mh_X, mh_alH, rm_4, s_byteAt hg hn (show x < 2 ^ 31 by omega), bA_lt h1, nI_1, rm_u4, ih]
    by_cases hs : g x = 32
    · rw [if_pos hs, skT_sp h1 hs]
    · rw [if_neg hs, skT_at h1 hs, bA_lt h1]
theorem s_next (hg : A 141 = g) (hn : n ≤ 700) (hx : x ≤ n) : EvM (d + 1) 99 [.ref 140] (MH h T U (pS S 140 (rm n x dp ob ud sn)) A J G) K = K (.inl (some (.int (bA g n (skT g n x))))) (MH h T U (pS S 140 (rm n (skT g n x) dp ob ud sn)) A J G) := by
  rw [in99]
  exact s_next_loop hg hn (n - x) x (by omega)
theorem s_isGood : EvM d 100 [.ref 140] (MH h T U (pS S 140 m) A J G) K = K (.inl (some (.int (bI (m 5 = 0))))) (MH h T U (pS S 140 m) A J G) := by
  simp only [in100, i100_0, i100_1, i100_4, i100_7, i100_8, i100_11, i100_12, nl_i, nl_r, nl_0, nl_j, nb0, nb1, nbI, orv_s, konN_v, konN_n, konN_e, true_and, and_true, and_self, if_true, if_false, ite_true, ite_false, isR_ref, true_or, or_true, bI_T, bI_F, bI_Fb, i1z, Bool.false_eq_true, k_140, f_140_1, f_140_8, f_140_9, f_140_10, f_140_11, f_140_15, f_140_0, f_140_2, f_140_3, f_140_4, f_140_5, f_140_6, f_140_7, f_140_12, f_140_13, f_140_14, w_140_0, w_140_2, w_140_3, w_140_4, w_140_5, w_140_6, w_140_7, w_140_12, w_140_13, w_140_14, k_141, l_141, a_141, wa_141, k_142, l_142, a_142, wa_142, k_143, l_143, a_143, wa_143, k_144, l_144, a_144, wa_144, pS_b, pS_up, mh_N, mh_S, mh_X, mh_alH]
  by_cases h1 : m 5 = 0
  · rw [if_pos h1, bI_t h1]
  · rw [if_neg h1, bI_f h1]
theorem s_report (h5 : m 5 = 0) : EvM d 101 [.ref 140, .int u, .int v] (MH h T U (pS S 140 m) A J G) K = K (.inl none) (MH h T U (pS S 140 (upf (upf m 5 u) 6 v)) A J G) := by
  simp only [in101, i101_0, i101_1, i101_4, i101_7, i101_8, i101_9, i101_10, i101_13, i101_14, i101_15, i101_18, nl_i, nl_r, nl_0, nl_j, nb0, nb1, nbI, orv_s, konN_v, konN_n, konN_e, true_and, and_true, and_self, if_true, if_false, ite_true, ite_false, isR_ref, true_or, or_true, bI_T, bI_F, bI_Fb, i1z, Bool.false_eq_true, k_140, f_140_1, f_140_8, f_140_9, f_140_10, f_140_11, f_140_15, f_140_0, f_140_2, f_140_3, f_140_4, f_140_5, f_140_6, f_140_7, f_140_12, f_140_13, f_140_14, w_140_0, w_140_2, w_140_3, w_140_4, w_140_5, w_140_6, w_140_7, w_140_12, w_140_13, w_140_14, k_141, l_141, a_141, wa_141, k_142, l_142, a_142, wa_142, k_143, l_143, a_143, wa_143, k_144, l_144, a_144, wa_144, pS_b, pS_up, mh_N, mh_S, mh_X, mh_alH, h5]
theorem s_reportB (h5 : ¬ m 5 = 0) : EvM d 101 [.ref 140, .int u, .int v] (MH h T U (pS S 140 m) A J G) K = K (.inl none) (MH h T U (pS S 140 m) A J G) := by
  simp only [in101, i101_0, i101_1, i101_4, i101_7, i101_8, i101_9, i101_10, i101_13, i101_14, i101_15, i101_18, nl_i, nl_r, nl_0, nl_j, nb0, nb1, nbI, orv_s, konN_v, konN_n, konN_e, true_and, and_true, and_self, if_true, if_false, ite_true, ite_false, isR_ref, true_or, or_true, bI_T, bI_F, bI_Fb, i1z, Bool.false_eq_true, k_140, f_140_1, f_140_8, f_140_9, f_140_10, f_140_11, f_140_15, f_140_0, f_140_2, f_140_3, f_140_4, f_140_5, f_140_6, f_140_7, f_140_12, f_140_13, f_140_14, w_140_0, w_140_2, w_140_3, w_140_4, w_140_5, w_140_6, w_140_7, w_140_12, w_140_13, w_140_14, k_141, l_141, a_141, wa_141, k_142, l_142, a_142, wa_142, k_143, l_143, a_143, wa_143, k_144, l_144, a_144, wa_144, pS_b, pS_up, mh_N, mh_S, mh_X, mh_alH, h5]
theorem s_expectB (h5 : ¬ m 5 = 0) : EvM (d + 1) 104 [.ref 140, .int u] (MH h T U (pS S 140 m) A J G) K = K (.inl none) (MH h T U (pS S 140 m) A J G) := by
  simp only [in104, i104_0, i104_1, i104_4, i104_7, i104_8, i104_9, i104_12, i104_13, i104_16, i104_17, i104_18, i104_21, i104_22, i104_23, i104_26, i104_29, i104_30, i104_32, i104_33, i104_36, i104_39, nl_i, nl_r, nl_0, nl_j, nb0, nb1, nbI, orv_s, konN_v, konN_n, konN_e, true_and, and_true, and_self, if_true, if_false, ite_true, ite_false, isR_ref, true_or, or_true, bI_T, bI_F, bI_Fb, i1z, Bool.false_eq_true, k_140, f_140_1, f_140_8, f_140_9, f_140_10, f_140_11, f_140_15, f_140_0, f_140_2, f_140_3, f_140_4, f_140_5, f_140_6, f_140_7, f_140_12, f_140_13, f_140_14, w_140_0, w_140_2, w_140_3, w_140_4, w_140_5, w_140_6, w_140_7, w_140_12, w_140_13, w_140_14, k_141, l_141, a_141, wa_141, k_142, l_142, a_142, wa_142, k_143, l_143, a_143, wa_143, k_144, l_144, a_144, wa_144, pS_b, pS_up, mh_N, mh_S, mh_X, mh_alH, s_isGood, bI_f h5]
theorem s_numberB (h5 : ¬ m 5 = 0) : EvM (d + 1) 105 [.ref 140, .int u, .int v] (MH h T U (pS S 140 m) A J G) K = K (.inl (some (.int 0))) (MH h T U (pS S 140 m) A J G) := by
  simp only [i105_0, i105_1, i105_4, i105_7, i105_8, in105, nl_i, nl_r, nl_0, nl_j, nb0, nb1, nbI, orv_s, konN_v, konN_n, konN_e, true_and, and_true, and_self, if_true, if_false, ite_true, ite_false, isR_ref, true_or, or_true, bI_T, bI_F, bI_Fb, i1z, Bool.false_eq_true, k_140, f_140_1, f_140_8, f_140_9, f_140_10, f_140_11, f_140_15, f_140_0, f_140_2, f_140_3, f_140_4, f_140_5, f_140_6, f_140_7, f_140_12, f_140_13, f_140_14, w_140_0, w_140_2, w_140_3, w_140_4, w_140_5, w_140_6, w_140_7, w_140_12, w_140_13, w_140_14, k_141, l_141, a_141, wa_141, k_142, l_142, a_142, wa_142, k_143, l_143, a_143, wa_143, k_144, l_144, a_144, wa_144, pS_b, pS_up, mh_N, mh_S, mh_X, mh_alH, s_isGood, bI_f h5]
theorem s_emitB (h5 : ¬ m 5 = 0) : EvM (d + 1) 106 [.ref 140, .int u] (MH h T U (pS S 140 m) A J G) K = K (.inl none) (MH h T U (pS S 140 m) A J G) := by
  simp only [i106_0, i106_1, i106_4, i106_7, in106, nl_i, nl_r, nl_0, nl_j, nb0, nb1, nbI, orv_s, konN_v, konN_n, konN_e, true_and, and_true, and_self, if_true, if_false, ite_true, ite_false, isR_ref, true_or, or_true, bI_T, bI_F, bI_Fb, i1z, Bool.false_eq_true, k_140, f_140_1, f_140_8, f_140_9, f_140_10, f_140_11, f_140_15, f_140_0, f_140_2, f_140_3, f_140_4, f_140_5, f_140_6, f_140_7, f_140_12, f_140_13, f_140_14, w_140_0, w_140_2, w_140_3, w_140_4, w_140_5, w_140_6, w_140_7, w_140_12, w_140_13, w_140_14, k_141, l_141, a_141, wa_141, k_142, l_142, a_142, wa_142, k_143, l_143, a_143, wa_143, k_144, l_144, a_144, wa_144, pS_b, pS_up, mh_N, mh_S, mh_X, mh_alH, s_isGood, bI_f h5]
theorem s_takeWordB (h5 : ¬ m 5 = 0) : EvM (d + 1) 103 [.ref 140, litV k] (MH h T U (pS S 140 m) A J G) K = K (.inl (some (.int 0))) (MH h T U (pS S 140 m) A J G) := by
  simp only [i103_0, i103_1, i103_4, i103_7, i103_8, in103, nl_i, nl_r, nl_0, nl_j, nb0, nb1, nbI, orv_s, konN_v, konN_n, konN_e, true_and, and_true, and_self, if_true, if_false, ite_true, ite_false, isR_ref, true_or, or_true, bI_T, bI_F, bI_Fb, i1z, Bool.false_eq_true, k_140, f_140_1, f_140_8, f_140_9, f_140_10, f_140_11, f_140_15, f_140_0, f_140_2, f_140_3, f_140_4, f_140_5, f_140_6, f_140_7, f_140_12, f_140_13, f_140_14, w_140_0, w_140_2, w_140_3, w_140_4, w_140_5, w_140_6, w_140_7, w_140_12, w_140_13, w_140_14, k_141, l_141, a_141, wa_141, k_142, l_142, a_142, wa_142, k_143, l_143, a_143, wa_143, k_144, l_144, a_144, wa_144, pS_b, pS_up, mh_N, mh_S, mh_X, mh_alH, s_isGood, bI_f h5]
theorem s_expect (hg : A 141 = g) (hn : n ≤ 700) (hx : x ≤ n) : EvM (d + 2) 104 [.ref 140, .int u] (MH h T U (pS S 140 (rm n x dp ob ud sn)) A J G) K =
    if bA g n (skT g n x) = u then K (.inl none) (MH h T U (pS S 140 (rm n (skT g n x + 1) dp ob ud sn)) A J G) else K (.inl none) (MH h T U (pS S 140 (upf (upf (rm n (skT g n x) dp ob ud sn) 5 (-2)) 6 (nI (skT g n x)))) A J G) := by
  simp only [in104, i104_0, i104_1, i104_4, i104_7, i104_8, i104_9, i104_12, i104_13, i104_16, i104_17, i104_18, i104_21, i104_22, i104_23, i104_26, i104_29, i104_30, i104_32, i104_33, i104_36, i104_39, nl_i, nl_r, nl_0, nl_j, nb0, nb1, nbI, orv_s, konN_v, konN_n, konN_e, true_and, and_true, and_self, if_true, if_false, ite_true, ite_false, isR_ref, true_or, or_true, bI_T, bI_F, bI_Fb, i1z, Bool.false_eq_true, k_140, f_140_1, f_140_8, f_140_9, f_140_10, f_140_11, f_140_15, f_140_0, f_140_2, f_140_3, f_140_4, f_140_5, f_140_6, f_140_7, f_140_12, f_140_13, f_140_14, w_140_0, w_140_2, w_140_3, w_140_4, w_140_5, w_140_6, w_140_7, w_140_12, w_140_13, w_140_14, k_141, l_141, a_141, wa_141, k_142, l_142, a_142, wa_142, k_143, l_143, a_143, wa_143, k_144, l_144, a_144, wa_144, pS_b, pS_up, mh_N, mh_S, mh_X, mh_alH, s_isGood, rm_5, bI_t (show (0 : Int32) = 0 from rfl), i1z, s_next hg hn hx, rm_4, nI_1, rm_u4, s_report rm_5]
theorem s_number_loop (hg : A 141 = g) (hn : n ≤ 700) : ∀ m x v, x + m = n → Ev (d + 2) 105 39 [some (.ref 140), some (.int lo), some (.int hi), some (.int w), some (.int v)] [] (MH h T U (pS S 140 (rm n x dp ob ud sn)) A J G) K = Ev (d + 2) 105 90 [some (.ref 140), some (.int lo), some (.int hi), some (.int w), some (.int (nmR g (runF isDg g m x - x) x v))] [] (MH h T U (pS S 140 (rm n (runF isDg g m x) dp ob ud sn)) A J G) K
  | 0, x, v, hx => by
    have h1 : ¬ x < n := by omega
    rw [i105_39]
    simp only [i105_40, i105_41, i105_44, i105_47, i105_50, i105_53, i105_55, i105_57, i105_59, i105_60, i105_61, i105_62, i105_65, i105_68, i105_69, i105_71, i105_72, i105_75, i105_77, i105_78, i105_79, i105_82, i105_83, i105_84, i105_87, nl_i, nl_r, nl_0, nl_j, nb0, nb1, nbI, orv_s, konN_v, konN_n, konN_e, true_and, and_true, and_self, if_true, if_false, ite_true, ite_false, isR_ref, true_or, or_true, bI_T, bI_F, bI_Fb, i1z, Bool.false_eq_true, k_140, f_140_1, f_140_8, f_140_9, f_140_10, f_140_11, f_140_15, f_140_0, f_140_2, f_140_3, f_140_4, f_140_5, f_140_6, f_140_7, f_140_12, f_140_13, f_140_14, w_140_0, w_140_2, w_140_3, w_140_4, w_140_5, w_140_6, w_140_7, w_140_12, w_140_13, w_140_14, k_141, l_141, a_141, wa_141, k_142, l_142, a_142, wa_142, k_143, l_143, a_143, wa_143, k_144, l_144, a_144, wa_144, pS_b, pS_up, mh_N, mh_S, mh_X, mh_alH, rm_4, s_byteAt hg hn (show x < 2 ^ 31 by omega), bA_ge h1, s_mDigit, bI_f isDg_m1, runF, Nat.sub_self, nmR]
  | m + 1, x, v, hx => by
    have h1 : x < n := by omega
    have ih := fun v => s_number_loop hg hn m (x + 1) v (by omega)
    rw [i105_39]
    by_cases hd : isDg (g x) = true
    · have e1 : runF isDg g (m + 1) x = runF isDg g m (x + 1) := if_pos hd
      have e2 := runF_le (P := isDg) (g := g) m (x + 1)
      have e3 : runF isDg g m (x + 1) - x = (runF isDg g m (x + 1) - (x + 1)) + 1 := by omega
      simp only [i105_40, i105_41, i105_44, i105_47, i105_50, i105_53, i105_55, i105_57, i105_59, i105_60, i105_61, i105_62, i105_65, i105_68, i105_69, i105_71, i105_72, i105_75, i105_77, i105_78, i105_79, i105_82, i105_83, i105_84, i105_87, nl_i, nl_r, nl_0, nl_j, nb0, nb1, nbI, orv_s, konN_v, konN_n, konN_e, true_and, and_true, and_self, if_true, if_false, ite_true, ite_false, isR_ref, true_or, or_true, bI_T, bI_F, bI_Fb, i1z, Bool.false_eq_true, k_140, f_140_1, f_140_8, f_140_9, f_140_10, f_140_11, f_140_15, f_140_0, f_140_2, f_140_3, f_140_4, f_140_5, f_140_6, f_140_7, f_140_12, f_140_13, f_140_14, w_140_0, w_140_2, w_140_3, w_140_4, w_140_5, w_140_6, w_140_7, w_140_12, w_140_13, w_140_14, k_141, l_141, a_141, wa_141, k_142, l_142, a_142, wa_142, k_143, l_143, a_143, wa_143, k_144, l_144, a_144, wa_144, pS_b, pS_up, mh_N, mh_S, mh_X, mh_alH, rm_4, s_byteAt hg hn (show x < 2 ^ 31 by omega), bA_lt h1, s_mDigit, bI_t hd, i1z, s_min, nI_1, rm_u4, ih, e1, e3, nmR]
    · have e1 : runF isDg g (m + 1) x = x := if_neg hd
      simp only [i105_40, i105_41, i105_44, i105_47, i105_50, i105_53, i105_55, i105_57, i105_59, i105_60, i105_61, i105_62, i105_65, i105_68, i105_69, i105_71, i105_72, i105_75, i105_77, i105_78, i105_79, i105_82, i105_83, i105_84, i105_87, nl_i, nl_r, nl_0, nl_j, nb0, nb1, nbI, orv_s, konN_v, konN_n, konN_e, true_and, and_true, and_self, if_true, if_false, ite_true, ite_false, isR_ref, true_or, or_true, bI_T, bI_F, bI_Fb, i1z, Bool.false_eq_true, k_140, f_140_1, f_140_8, f_140_9, f_140_10, f_140_11, f_140_15, f_140_0, f_140_2, f_140_3, f_140_4, f_140_5, f_140_6, f_140_7, f_140_12, f_140_13, f_140_14, w_140_0, w_140_2, w_140_3, w_140_4, w_140_5, w_140_6, w_140_7, w_140_12, w_140_13, w_140_14, k_141, l_141, a_141, wa_141, k_142, l_142, a_142, wa_142, k_143, l_143, a_143, wa_143, k_144, l_144, a_144, wa_144, pS_b, pS_up, mh_N, mh_S, mh_X, mh_alH, rm_4, s_byteAt hg hn (show x < 2 ^ 31 by omega), bA_lt h1, s_mDigit, bI_f hd, e1, Nat.sub_self, nmR]
theorem s_number (hg : A 141 = g) (hn : n ≤ 700) (hx : x ≤ n) (hp : skT g n x = p) : EvM (d + 2) 105 [.ref 140, .int lo, .int hi] (MH h T U (pS S 140 (rm n x dp ob ud sn)) A J G) K =
    if kdT g n p = 1 then (if lo ≤ nmR g (teT g n p - p) p 0 ∧ nmR g (teT g n p - p) p 0 ≤ hi then K (.inl (some (.int (nmR g (teT g n p - p) p 0)))) (MH h T U (pS S 140 (rm n (teT g n p) dp ob ud sn)) A J G) else K (.inl (some (.int (nmR g (teT g n p - p) p 0)))) (MH h T U (pS S 140 (upf (upf (rm n (teT g n p) dp ob ud sn) 5 (-3)) 6 (nI p))) A J G)) else K (.inl (some (.int 0))) (MH h T U (pS S 140 (upf (upf (rm n p dp ob ud sn) 5 (-2)) 6 (nI p))) A J G) := by
  have hs := skT_le (g := g) hx
  rw [hp] at hs
  by_cases h1 : kdT g n p = 1
  · have hd : isDg (bA g n p) = true := kd1_iff ▸ h1
    have hpn : p < n := kdT_in (by rw [h1]; decide)
    have ht : teT g n p = runF isDg g (n - p) p := (kdT_dg (by omega) (by rw [bA_lt hpn] at hd; exact hd)).2
    have key := s_number_loop (d := d) (h := h) (T := T) (U := U) (S := S) (J := J) (G := G) (K := K) (dp := dp) (ob := ob) (ud := ud) (sn := sn) (lo := lo) (hi := hi) (w := nI p) hg hn (n - p) p 0 (by omega)
    rw [← ht] at key
    rw [if_pos h1]
    generalize nmR g (teT g n p - p) p 0 = v at key ⊢
    by_cases h2 : lo ≤ v ∧ v ≤ hi
    · simp only [i105_0, i105_1, i105_4, i105_7, i105_8, i105_9, i105_10, i105_13, i105_16, i105_19, i105_20, i105_22, i105_23, i105_26, i105_29, i105_30, i105_31, i105_32, i105_35, i105_36, i105_37, i105_90, i105_92, i105_93, i105_94, i105_97, i105_100, i105_101, i105_103, i105_104, i105_107, i105_109, in105, nl_i, nl_r, nl_0, nl_j, nb0, nb1, nbI, orv_s, konN_v, konN_n, konN_e, true_and, and_true, and_self, if_true, if_false, ite_true, ite_false, isR_ref, true_or, or_true, bI_T, bI_F, bI_Fb, i1z, Bool.false_eq_true, k_140, f_140_1, f_140_8, f_140_9, f_140_10, f_140_11, f_140_15, f_140_0, f_140_2, f_140_3, f_140_4, f_140_5, f_140_6, f_140_7, f_140_12, f_140_13, f_140_14, w_140_0, w_140_2, w_140_3, w_140_4, w_140_5, w_140_6, w_140_7, w_140_12, w_140_13, w_140_14, k_141, l_141, a_141, wa_141, k_142, l_142, a_142, wa_142, k_143, l_143, a_143, wa_143, k_144, l_144, a_144, wa_144, pS_b, pS_up, mh_N, mh_S, mh_X, mh_alH, s_isGood, rm_5, bI_t (show (0 : Int32) = 0 from rfl), i1z, s_next hg hn hx, hp, s_mDigit, bI_t hd, rm_4, key, s_in, bI_t h2]
      rw [if_pos h2]
    · simp only [i105_0, i105_1, i105_4, i105_7, i105_8, i105_9, i105_10, i105_13, i105_16, i105_19, i105_20, i105_22, i105_23, i105_26, i105_29, i105_30, i105_31, i105_32, i105_35, i105_36, i105_37, i105_90, i105_92, i105_93, i105_94, i105_97, i105_100, i105_101, i105_103, i105_104, i105_107, i105_109, in105, nl_i, nl_r, nl_0, nl_j, nb0, nb1, nbI, orv_s, konN_v, konN_n, konN_e, true_and, and_true, and_self, if_true, if_false, ite_true, ite_false, isR_ref, true_or, or_true, bI_T, bI_F, bI_Fb, i1z, Bool.false_eq_true, k_140, f_140_1, f_140_8, f_140_9, f_140_10, f_140_11, f_140_15, f_140_0, f_140_2, f_140_3, f_140_4, f_140_5, f_140_6, f_140_7, f_140_12, f_140_13, f_140_14, w_140_0, w_140_2, w_140_3, w_140_4, w_140_5, w_140_6, w_140_7, w_140_12, w_140_13, w_140_14, k_141, l_141, a_141, wa_141, k_142, l_142, a_142, wa_142, k_143, l_143, a_143, wa_143, k_144, l_144, a_144, wa_144, pS_b, pS_up, mh_N, mh_S, mh_X, mh_alH, s_isGood, rm_5, bI_t (show (0 : Int32) = 0 from rfl), i1z, s_next hg hn hx, hp, s_mDigit, bI_t hd, rm_4, key, s_in, bI_f h2, s_report rm_5]
      rw [if_neg h2]
  · have hd : ¬ isDg (bA g n p) = true := kd1_iff ▸ h1
    rw [if_neg h1]
    simp only [i105_0, i105_1, i105_4, i105_7, i105_8, i105_9, i105_10, i105_13, i105_16, i105_19, i105_20, i105_22, i105_23, i105_26, i105_29, i105_30, i105_31, i105_32, i105_35, i105_36, i105_37, in105, nl_i, nl_r, nl_0, nl_j, nb0, nb1, nbI, orv_s, konN_v, konN_n, konN_e, true_and, and_true, and_self, if_true, if_false, ite_true, ite_false, isR_ref, true_or, or_true, bI_T, bI_F, bI_Fb, i1z, Bool.false_eq_true, k_140, f_140_1, f_140_8, f_140_9, f_140_10, f_140_11, f_140_15, f_140_0, f_140_2, f_140_3, f_140_4, f_140_5, f_140_6, f_140_7, f_140_12, f_140_13, f_140_14, w_140_0, w_140_2, w_140_3, w_140_4, w_140_5, w_140_6, w_140_7, w_140_12, w_140_13, w_140_14, k_141, l_141, a_141, wa_141, k_142, l_142, a_142, wa_142, k_143, l_143, a_143, wa_143, k_144, l_144, a_144, wa_144, pS_b, pS_up, mh_N, mh_S, mh_X, mh_alH, s_isGood, rm_5, bI_t (show (0 : Int32) = 0 from rfl), i1z, s_next hg hn hx, hp, s_mDigit, bI_f hd, rm_4, s_report rm_5]
theorem s_tw_loop (hk6 : k < 6) (hg : A 141 = g) (hn : n ≤ 700) (hp : p ≤ n) : ∀ m j, j + m = lenJ.getD k 0 → Ev (d + 4) 103 16 [some (.ref 140), some (litV k), some (.int (nI j))] [] (MH h T U (pS S 140 (rm n p dp ob ud sn)) A J G) K =
    if eqF (bytJ.getD k []) (bA g n) p j m = true ∧ ¬ isLt (bA g n (p + lenJ.getD k 0)) = true then K (.inl (some (.int 1))) (MH h T U (pS S 140 (rm n (p + lenJ.getD k 0) dp ob ud sn)) A J G) else K (.inl (some (.int 0))) (MH h T U (pS S 140 (rm n p dp ob ud sn)) A J G)
  | 0, j, hj => by
    have hl := lenJ_le k hk6
    obtain rfl : j = lenJ.getD k 0 := by omega
    have hq : ∀ u, (isLt u = true) = (97 ≤ u ∧ u ≤ 122) := fun u => by unfold isLt; exact propext decide_eq_true_iff
    rw [i103_16]
    by_cases h1 : isLt (bA g n (p + lenJ.getD k 0)) = true
    · simp only [i103_17, i103_18, i103_21, i103_24, i103_25, i103_26, i103_29, i103_30, i103_31, i103_34, i103_35, i103_36, i103_39, i103_42, i103_45, i103_48, i103_49, i103_50, i103_53, i103_56, i103_57, i103_58, i103_61, i103_62, i103_63, i103_66, i103_68, i103_70, i103_73, i103_76, i103_77, i103_78, i103_79, i103_80, i103_83, i103_84, i103_85, i103_88, i103_89, nl_i, nl_r, nl_0, nl_j, nb0, nb1, nbI, orv_s, konN_v, konN_n, konN_e, true_and, and_true, and_self, if_true, if_false, ite_true, ite_false, isR_ref, true_or, or_true, bI_T, bI_F, bI_Fb, i1z, Bool.false_eq_true, k_140, f_140_1, f_140_8, f_140_9, f_140_10, f_140_11, f_140_15, f_140_0, f_140_2, f_140_3, f_140_4, f_140_5, f_140_6, f_140_7, f_140_12, f_140_13, f_140_14, w_140_0, w_140_2, w_140_3, w_140_4, w_140_5, w_140_6, w_140_7, w_140_12, w_140_13, w_140_14, k_141, l_141, a_141, wa_141, k_142, l_142, a_142, wa_142, k_143, l_143, a_143, wa_143, k_144, l_144, a_144, wa_144, pS_b, pS_up, mh_N, mh_S, mh_X, mh_alH, rm_4, isRL hk6, recvL hk6, nl_L, s_length hk6, nI_le_zn (show lenJ.getD k 0 < 2 ^ 31 by omega), nI_lt_zn (show lenJ.getD k 0 < 2 ^ 31 by omega), zn_nI (show lenJ.getD k 0 < 2 ^ 31 by omega), Nat.lt_irrefl, not_false_eq_true, nI_add, s_byteAt hg hn (show p + lenJ.getD k 0 < 2 ^ 31 by omega), s_in, ← hq, bI_t h1, i1z, h1, not_true, and_false]
    · simp only [i103_17, i103_18, i103_21, i103_24, i103_25, i103_26, i103_29, i103_30, i103_31, i103_34, i103_35, i103_36, i103_39, i103_42, i103_45, i103_48, i103_49, i103_50, i103_53, i103_56, i103_57, i103_58, i103_61, i103_62, i103_63, i103_66, i103_68, i103_70, i103_73, i103_76, i103_77, i103_78, i103_79, i103_80, i103_83, i103_84, i103_85, i103_88, i103_89, nl_i, nl_r, nl_0, nl_j, nb0, nb1, nbI, orv_s, konN_v, konN_n, konN_e, true_and, and_true, and_self, if_true, if_false, ite_true, ite_false, isR_ref, true_or, or_true, bI_T, bI_F, bI_Fb, i1z, Bool.false_eq_true, k_140, f_140_1, f_140_8, f_140_9, f_140_10, f_140_11, f_140_15, f_140_0, f_140_2, f_140_3, f_140_4, f_140_5, f_140_6, f_140_7, f_140_12, f_140_13, f_140_14, w_140_0, w_140_2, w_140_3, w_140_4, w_140_5, w_140_6, w_140_7, w_140_12, w_140_13, w_140_14, k_141, l_141, a_141, wa_141, k_142, l_142, a_142, wa_142, k_143, l_143, a_143, wa_143, k_144, l_144, a_144, wa_144, pS_b, pS_up, mh_N, mh_S, mh_X, mh_alH, rm_4, isRL hk6, recvL hk6, nl_L, s_length hk6, nI_le_zn (show lenJ.getD k 0 < 2 ^ 31 by omega), nI_lt_zn (show lenJ.getD k 0 < 2 ^ 31 by omega), zn_nI (show lenJ.getD k 0 < 2 ^ 31 by omega), Nat.lt_irrefl, not_false_eq_true, nI_add, s_byteAt hg hn (show p + lenJ.getD k 0 < 2 ^ 31 by omega), s_in, ← hq, bI_f h1, h1, rm_u4, eqF]
  | m + 1, j, hj => by
    have hl := lenJ_le k hk6
    have hjl : j < lenJ.getD k 0 := by omega
    have ih := s_tw_loop hk6 hg hn hp m (j + 1) (by omega)
    rw [i103_16]
    simp only [i103_17, i103_18, i103_21, i103_24, i103_25, i103_26, i103_29, i103_30, i103_31, i103_34, i103_35, i103_36, i103_39, i103_42, i103_45, i103_48, i103_49, i103_50, i103_53, i103_56, i103_57, i103_58, i103_61, i103_62, i103_63, i103_66, i103_68, i103_70, i103_73, i103_76, i103_77, nl_i, nl_r, nl_0, nl_j, nb0, nb1, nbI, orv_s, konN_v, konN_n, konN_e, true_and, and_true, and_self, if_true, if_false, ite_true, ite_false, isR_ref, true_or, or_true, bI_T, bI_F, bI_Fb, i1z, Bool.false_eq_true, k_140, f_140_1, f_140_8, f_140_9, f_140_10, f_140_11, f_140_15, f_140_0, f_140_2, f_140_3, f_140_4, f_140_5, f_140_6, f_140_7, f_140_12, f_140_13, f_140_14, w_140_0, w_140_2, w_140_3, w_140_4, w_140_5, w_140_6, w_140_7, w_140_12, w_140_13, w_140_14, k_141, l_141, a_141, wa_141, k_142, l_142, a_142, wa_142, k_143, l_143, a_143, wa_143, k_144, l_144, a_144, wa_144, pS_b, pS_up, mh_N, mh_S, mh_X, mh_alH, rm_4, isRL hk6, recvL hk6, nl_L, s_length hk6, s_charAt hk6 hjl, nI_le_zn (show j < 2 ^ 31 by omega), nI_lt_zn (show j < 2 ^ 31 by omega), zn_nI (show lenJ.getD k 0 < 2 ^ 31 by omega), hjl, not_true, nI_add, s_byteAt hg hn (show p + j < 2 ^ 31 by omega), nI_1, ih, eqF]
    by_cases h1 : bA g n (p + j) = (bytJ.getD k []).getD j 0
    · simp only [h1, if_true, decide_true, Bool.true_and]
    · simp only [h1, if_false, decide_false, Bool.false_and, Bool.false_eq_true, false_and]
theorem s_takeWord (hk6 : k < 6) (hg : A 141 = g) (hn : n ≤ 700) (hx : x ≤ n) : EvM (d + 4) 103 [.ref 140, litV k] (MH h T U (pS S 140 (rm n x dp ob ud sn)) A J G) K =
    if wdB g n (skT g n x) k = true then K (.inl (some (.int 1))) (MH h T U (pS S 140 (rm n (skT g n x + lenJ.getD k 0) dp ob ud sn)) A J G) else K (.inl (some (.int 0))) (MH h T U (pS S 140 (rm n (skT g n x) dp ob ud sn)) A J G) := by
  have hs := skT_le (g := g) hx
  have key := s_tw_loop (d := d) (h := h) (T := T) (U := U) (S := S) (J := J) (G := G) (K := K) (dp := dp) (ob := ob) (ud := ud) (sn := sn) hk6 hg hn hs.2 (lenJ.getD k 0) 0 (by omega)
  rw [nI_0] at key
  simp only [i103_0, i103_1, i103_4, i103_7, i103_8, i103_9, i103_10, i103_13, i103_14, i103_15, in103, nl_i, nl_r, nl_0, nl_j, nb0, nb1, nbI, orv_s, konN_v, konN_n, konN_e, true_and, and_true, and_self, if_true, if_false, ite_true, ite_false, isR_ref, true_or, or_true, bI_T, bI_F, bI_Fb, i1z, Bool.false_eq_true, k_140, f_140_1, f_140_8, f_140_9, f_140_10, f_140_11, f_140_15, f_140_0, f_140_2, f_140_3, f_140_4, f_140_5, f_140_6, f_140_7, f_140_12, f_140_13, f_140_14, w_140_0, w_140_2, w_140_3, w_140_4, w_140_5, w_140_6, w_140_7, w_140_12, w_140_13, w_140_14, k_141, l_141, a_141, wa_141, k_142, l_142, a_142, wa_142, k_143, l_143, a_143, wa_143, k_144, l_144, a_144, wa_144, pS_b, pS_up, mh_N, mh_S, mh_X, mh_alH, s_isGood, rm_5, bI_t (show (0 : Int32) = 0 from rfl), i1z, nl_L, s_next hg hn hx, key, wd_iff hk6 hs.2]
theorem s_emit (hD : D 8 = nI nc) (hc : nc < 1200) : EvM (d + 1) 106 [.ref 140, .int u] (MH h T U (pS S 140 (rm n x dp ob ud sn)) (upf A 143 D) J G) K = K (.inl none) (MH h T U (pS S 140 (rm n x dp ob ud sn)) (upf A 143 (upd (upd D (251 + nc) u) 8 (nI (nc + 1)))) J G) := by
  have e1 : (251 : Int32) = nI 251 := rfl
  have e8 : (8 : Int32) = nI 8 := rfl
  have u8 : ∀ (F : Nat → Int32) (w : Int32), (upd F (251 + nc) w) 8 = F 8 := fun F w => if_neg (by omega)
  simp only [in106, i106_0, i106_1, i106_4, i106_7, i106_8, i106_9, i106_12, i106_15, i106_16, i106_19, i106_21, i106_22, i106_23, i106_24, i106_25, i106_26, i106_29, i106_31, i106_32, i106_33, i106_34, i106_35, i106_36, nl_i, nl_r, nl_0, nl_j, nb0, nb1, nbI, orv_s, konN_v, konN_n, konN_e, true_and, and_true, and_self, if_true, if_false, ite_true, ite_false, isR_ref, true_or, or_true, bI_T, bI_F, bI_Fb, i1z, Bool.false_eq_true, k_140, f_140_1, f_140_8, f_140_9, f_140_10, f_140_11, f_140_15, f_140_0, f_140_2, f_140_3, f_140_4, f_140_5, f_140_6, f_140_7, f_140_12, f_140_13, f_140_14, w_140_0, w_140_2, w_140_3, w_140_4, w_140_5, w_140_6, w_140_7, w_140_12, w_140_13, w_140_14, k_141, l_141, a_141, wa_141, k_142, l_142, a_142, wa_142, k_143, l_143, a_143, wa_143, k_144, l_144, a_144, wa_144, pS_b, pS_up, mh_N, mh_S, mh_X, mh_alH, s_isGood, rm_5, bI_t (show (0 : Int32) = 0 from rfl), i1z, upf_same, upf_upf, e1, e8, hD, u8, nI_add, nI_1, inbT (show 8 < 1451 by omega) (show 1451 < 2 ^ 31 by omega), inbT (show 251 + nc < 1451 by omega) (show 1451 < 2 ^ 31 by omega), zn_nI (show 8 < 2 ^ 31 by omega), zn_nI (show 251 + nc < 2 ^ 31 by omega)]
end R2
