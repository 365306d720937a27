/-! READING: a heat expression, both readers together -/
def apL : (Nat → Int32) → Nat → List Int32 → Nat → Int32
  | st, _, [] => st
  | st, i, v :: t => apL (upd st i v) (i + 1) t
def apR : (Nat → Int32) → Nat → List Int32 → Nat → Int32
  | D, _, [] => D
  | D, i, v :: t => apR (upd (upd D (251 + i) v) 8 (nI (i + 1))) (i + 1) t
theorem apL_app : ∀ (L0 L : List Int32) (st : Nat → Int32) (i : Nat), apL st i (L0 ++ L) = apL (apL st i L0) (i + L0.length) L
  | [], L, st, i => rfl
  | v :: t, L, st, i => by
    show apL (upd st i v) (i + 1) (t ++ L) = apL (apL (upd st i v) (i + 1) t) (i + (t.length + 1)) L
    rw [apL_app t L, show i + 1 + t.length = i + (t.length + 1) by omega]
theorem apR_app : ∀ (L0 L : List Int32) (D : Nat → Int32) (i : Nat), apR D i (L0 ++ L) = apR (apR D i L0) (i + L0.length) L
  | [], L, D, i => rfl
  | v :: t, L, D, i => by
    show apR (upd (upd D (251 + i) v) 8 (nI (i + 1))) (i + 1) (t ++ L) = apR (apR (upd (upd D (251 + i) v) 8 (nI (i + 1))) (i + 1) t) (i + (t.length + 1)) L
    rw [apR_app t L, show i + 1 + t.length = i + (t.length + 1) by omega]
theorem apR_8 : ∀ (L : List Int32) (D : Nat → Int32) (i : Nat), D 8 = nI i → (apR D i L) 8 = nI (i + L.length)
  | [], D, i, h => h
  | v :: t, D, i, h => by
    show (apR (upd (upd D (251 + i) v) 8 (nI (i + 1))) (i + 1) t) 8 = nI (i + (t.length + 1))
    rw [apR_8 t _ (i + 1) (if_pos rfl), show i + 1 + t.length = i + (t.length + 1) by omega]
theorem apL_lo : ∀ (L : List Int32) (st : Nat → Int32) (i k : Nat), k < i → apL st i L k = st k
  | [], st, i, k, h => rfl
  | v :: t, st, i, k, h => (apL_lo t _ (i + 1) k (by omega)).trans (if_neg (by omega))
theorem apL_at : ∀ (L : List Int32) (st : Nat → Int32) (i j : Nat), j < L.length → apL st i L (i + j) = L.getD j 0
  | [], st, i, j, h => absurd h (Nat.not_lt_zero _)
  | v :: t, st, i, 0, h => (apL_lo t _ (i + 1) i (by omega)).trans (if_pos rfl)
  | v :: t, st, i, j + 1, h => by
    have h : j + 1 < t.length + 1 := h
    show apL (upd st i v) (i + 1) t (i + (j + 1)) = t.getD j 0
    rw [show i + (j + 1) = i + 1 + j by omega]
    exact apL_at t _ (i + 1) j (by omega)
theorem apR_lo : ∀ (L : List Int32) (D : Nat → Int32) (i k : Nat), k < 251 + i → ¬ k = 8 → apR D i L k = D k
  | [], D, i, k, h, h8 => rfl
  | v :: t, D, i, k, h, h8 => by
    show apR (upd (upd D (251 + i) v) 8 (nI (i + 1))) (i + 1) t k = D k
    rw [apR_lo t _ (i + 1) k (by omega) h8]
    exact (if_neg h8).trans (if_neg (by omega))
theorem apR_at : ∀ (L : List Int32) (D : Nat → Int32) (i j : Nat), j < L.length → apR D i L (251 + (i + j)) = L.getD j 0
  | [], D, i, j, h => absurd h (Nat.not_lt_zero _)
  | v :: t, D, i, 0, h => by
    show apR (upd (upd D (251 + i) v) 8 (nI (i + 1))) (i + 1) t (251 + i) = v
    rw [apR_lo t _ (i + 1) _ (by omega) (by omega)]
    exact (if_neg (by omega)).trans (if_pos rfl)
  | v :: t, D, i, j + 1, h => by
    have h : j + 1 < t.length + 1 := h
    show apR (upd (upd D (251 + i) v) 8 (nI (i + 1))) (i + 1) t (251 + (i + (j + 1))) = t.getD j 0
    rw [show i + (j + 1) = i + 1 + j by omega]
    exact apR_at t _ (i + 1) j (by omega)
theorem nxT_sg {g : Nat → Int32} {n p : Nat} {c : Int32} (h : sgB g n p c = true) : p < n ∧ nxT g n p = skT g n (p + 1) := by
  unfold sgB at h
  rw [Bool.and_eq_true, decide_eq_true_eq] at h
  have hp : p < n := kdT_in (g := g) (by rw [h.1]; decide)
  refine ⟨hp, ?_⟩
  unfold nxT
  by_cases hd : isDg (g p) = true
  · rw [(kdT_dg (n := n) (by omega) hd).1] at h
    exact absurd h.1 (by decide)
  · by_cases hl : isLt (g p) = true
    · rw [(kdT_lt (n := n) (by omega) hd hl).1] at h
      exact absurd h.1 (by decide)
    · rw [(kdT_ot (n := n) (by omega) hd hl).2]
/-- both go on: the reference is at x', the class at the token behind it -/
def jOk (c c2 : HP) (g : Nat → Int32) (n : Nat) (ec hs ob ud sn : Int32) (mc mr b kx : Nat) (dp x sc nc : Nat) (st D : Nat → Int32) (nu : Int32) : Prop :=
  ∃ x' nu' L R, skT g n x < x' ∧ x' ≤ n ∧ GX kx L R ∧ L.length ≤ x' - skT g n x ∧ 2 * R.length ≤ 3 * (x' - skT g n x) + 1 ∧
    (∀ e K, 3 * (4 - dp) ≤ e → EvM (e + b) mc [.ref 13, .int (nI dp)] (cH c (rd g n (skT g n x) nu ec hs sc) st) K = K (.inl (some (.int 1))) (cH c (rd g n (skT g n x') nu' ec hs (sc + L.length)) (apL st sc L))) ∧
    (∀ e K, 3 * (4 - dp) ≤ e → EvM (e + b) mr [.ref 140] (rH c2 (rm n x dp ob ud sn) D) K = K (.inl none) (rH c2 (rm n x' dp ob ud sn) (apR D nc R)))
/-- both fail, with the same code at the same place -/
def eEq (r m : Nat → Int32) (ob ud : Int32) : Prop := ¬ m 5 = 0 ∧ r 7 = m 5 ∧ r 8 = m 6 ∧ r 1 = 0 ∧ m 0 = 0 ∧ m 2 = 0 ∧ m 7 = ob ∧ m 12 = ud
def jBad (c c2 : HP) (g : Nat → Int32) (n : Nat) (ec hs ob ud sn : Int32) (mc mr b : Nat) (dp x sc : Nat) (st D : Nat → Int32) (nu : Int32) : Prop :=
  ∃ r' m' st' D', eEq r' m' ob ud ∧
    (∀ e K, 3 * (4 - dp) ≤ e → EvM (e + b) mc [.ref 13, .int (nI dp)] (cH c (rd g n (skT g n x) nu ec hs sc) st) K = K (.inl (some (.int 0))) (cH c r' st')) ∧
    (∀ e K, 3 * (4 - dp) ≤ e → EvM (e + b) mr [.ref 140] (rH c2 (rm n x dp ob ud sn) D) K = K (.inl none) (rH c2 m' D'))
def jS (c c2 : HP) (g : Nat → Int32) (n : Nat) (ec hs ob ud sn : Int32) (mc mr b kx : Nat) (dp F : Nat) : Prop := ∀ x sc nc st D nu, x ≤ n → n - x < F → sc ≤ skT g n x → 2 * nc + 1 ≤ 3 * skT g n x → D 8 = nI nc →
  jOk c c2 g n ec hs ob ud sn mc mr b kx dp x sc nc st D nu ∨ jBad c c2 g n ec hs ob ud sn mc mr b dp x sc st D nu
theorem eE1 {g : Nat → Int32} {n p x dp sc : Nat} {nu ec hs ob ud sn u v : Int32} (hu : ¬ u = 0) : eEq (upf (upf (rd g n p nu ec hs sc) 7 u) 8 v) (upf (upf (rm n x dp ob ud sn) 5 u) 6 v) ob ud := ⟨hu, rfl, rfl, rfl, rfl, rfl, rfl, rfl⟩
theorem gl1 {L : List Int32} {v : Int32} : (L ++ [v]).length = L.length + 1 := by simp
section JT
variable {c c2 : HP} {g : Nat → Int32} {n : Nat} {ec hs ob ud sn : Int32}
theorem sumB {d : Nat} {m D : Nat → Int32} {K : AO → AH → Prop} (h5 : ¬ m 5 = 0) : EvM (d + 3) 109 [.ref 140] (rH c2 m D) K = K (.inl none) (rH c2 m D) := by
  have f1 : ∀ {d K}, EvM (d + 1) 107 [.ref 140] (rH c2 m D) K = K (.inl none) (rH c2 m D) := fun {d K} => by
    simp only [i107_0, i107_1, i107_4, i107_7, in107, nl_i, nl_r, nl_0, nl_j, nb0, nb1, nbI, orv_s, konN_v, konN_n, konN_e, true_and, and_true, and_self, if_true, if_false, ite_true, ite_false, isR_ref, true_or, or_true, bI_T, bI_F, bI_Fb, i1z, Bool.false_eq_true, r_k, r_isGood, h5]
  have t1 : ∀ {d K}, EvM (d + 2) 108 [.ref 140] (rH c2 m D) K = K (.inl none) (rH c2 m D) := fun {d K} => by
    simp only [i108_0, i108_1, in108, nl_i, nl_r, nl_0, nl_j, nb0, nb1, nbI, orv_s, konN_v, konN_n, konN_e, true_and, and_true, and_self, if_true, if_false, ite_true, ite_false, isR_ref, true_or, or_true, bI_T, bI_F, bI_Fb, i1z, Bool.false_eq_true, r_k, f1]
    rw [i108_4]
    simp only [i108_5, i108_8, i108_74, nl_i, nl_r, nl_0, nl_j, nb0, nb1, nbI, orv_s, konN_v, konN_n, konN_e, true_and, and_true, and_self, if_true, if_false, ite_true, ite_false, isR_ref, true_or, or_true, bI_T, bI_F, bI_Fb, i1z, Bool.false_eq_true, r_k, r_isGood, h5]
  simp only [i109_0, i109_1, in109, nl_i, nl_r, nl_0, nl_j, nb0, nb1, nbI, orv_s, konN_v, konN_n, konN_e, true_and, and_true, and_self, if_true, if_false, ite_true, ite_false, isR_ref, true_or, or_true, bI_T, bI_F, bI_Fb, i1z, Bool.false_eq_true, r_k, t1]
  rw [i109_4]
  simp only [i109_5, i109_8, i109_74, nl_i, nl_r, nl_0, nl_j, nb0, nb1, nbI, orv_s, konN_v, konN_n, konN_e, true_and, and_true, and_self, if_true, if_false, ite_true, ite_false, isR_ref, true_or, or_true, bI_T, bI_F, bI_Fb, i1z, Bool.false_eq_true, r_k, r_isGood, h5]

/-- a sign of terms: both are behind it -/
theorem j_termsg (hv : bV (cB c) g n) (hg : rB c2 = g) (hn : n ≤ 700) {dp x i : Nat} (hx : x ≤ n) (hi : i ≤ x) (hsg : sgB g n (skT g n x) 42 = true ∨ sgB g n (skT g n x) 47 = true) :
    skT g n x < n ∧ ∃ oc orr : Int32, ((oc = -1 ∧ orr = 2) ∨ (oc = -2 ∧ orr = 3) ∨ (oc = -3 ∧ orr = 4) ∨ (oc = -4 ∧ orr = 5)) ∧
          (∀ e K nu l3 st sc, Ev (e + 6) 41 12 [some (.ref 13), some (.int (nI dp)), some (.int (nI i)), l3] [] (cH c (rd g n (skT g n x) nu ec hs sc) st) K = Ev (e + 6) 41 59 [some (.ref 13), some (.int (nI dp)), some (.int (nI i)), some (.int oc)] [] (cH c (rd g n (skT g n (skT g n x + 1)) nu ec hs sc) st) K) ∧
          ∃ w : Int32, (∀ e K l1 D, Ev (e + 6) 108 4 [some (.ref 140), l1] [] (rH c2 (rm n x dp ob ud sn) D) K = Ev (e + 6) 108 54 [some (.ref 140), some (.int w)] [] (rH c2 (rm n (skT g n x + 1) dp ob ud sn) D) K) ∧
            (∀ e K D x', Ev (e + 6) 108 58 [some (.ref 140), some (.int w)] [] (rH c2 (rm n x' dp ob ud sn) D) K = EvM (e + 5) 106 [.ref 140, .int orr] (rH c2 (rm n x' dp ob ud sn) D) (konN (e + 6) 108 71 [some (.ref 140), some (.int w)] [] K)) ∧
            (∀ e K m D, ¬ m 5 = 0 → Ev (e + 6) 108 58 [some (.ref 140), some (.int w)] [] (rH c2 m D) K = K (.inl none) (rH c2 m D)) := by
  have hsk := skT_le (g := g) hx
  have c1 : (0 : Int32) ≤ 42 ∧ (42 : Int32) < 128 := by decide
  have c2' : (0 : Int32) ≤ 47 ∧ (47 : Int32) < 128 := by decide
  have q1 : (sgB g n (skT g n x) 42 = true) = (bA g n (skT g n x) = 42) := sg_iff (by decide)
  have q2 : (sgB g n (skT g n x) 47 = true) = (bA g n (skT g n x) = 47) := sg_iff (by decide)
  have n21 : ¬ (47 : Int32) = 42 := by decide
  have hnx : skT g n x < n ∧ nxT g n (skT g n x) = skT g n (skT g n x + 1) := by
    rcases hsg with h | h
    · exact nxT_sg h
    · exact nxT_sg h
  refine ⟨hnx.1, ?_⟩
  have hin : i < n := by omega
  have hi2 : i < 2 ^ 31 := by omega
  have hn2 : n < 2 ^ 31 := by omega
  by_cases h1 : sgB g n (skT g n x) 42 = true
  · have b1 : bA g n (skT g n x) = 42 := q1.mp h1
    refine ⟨-3, 4, by decide, fun e K nu l3 st sc => ?_, 1, fun e K l1 D => ?_, fun e K D x' => ?_, fun e K m D h5 => ?_⟩
    · rw [i41_12]
      simp only [i41_13, i41_14, i41_17, i41_20, i41_21, i41_23, i41_26, i41_29, i41_30, i41_32, i41_35, i41_38, i41_39, i41_41, i41_44, i41_47, i41_49, i41_52, i41_54, i41_55, i41_56, nl_i, nl_r, nl_0, nl_j, nb0, nb1, nbI, orv_s, konN_v, konN_n, konN_e, true_and, and_true, and_self, if_true, if_false, ite_true, ite_false, isR_ref, true_or, or_true, bI_T, bI_F, bI_Fb, i1z, Bool.false_eq_true, c_k, c_f2, rd_2, nI_le_zn hi2, zn_nI hn2, hin, not_true, c_signIs hv hn c1, c_signIs hv hn c2', h1, c_tok hv hn hsk.2, hnx.2]
    · rw [i108_4]
      simp only [i108_5, i108_8, i108_11, i108_12, i108_15, i108_17, i108_20, i108_21, i108_24, i108_26, i108_29, i108_30, i108_33, i108_35, i108_38, i108_39, i108_42, i108_43, i108_44, i108_45, i108_46, i108_49, i108_50, i108_51, nl_i, nl_r, nl_0, nl_j, nb0, nb1, nbI, orv_s, konN_v, konN_n, konN_e, true_and, and_true, and_self, if_true, if_false, ite_true, ite_false, isR_ref, true_or, or_true, bI_T, bI_F, bI_Fb, i1z, Bool.false_eq_true, r_k, r_f4, r_w4, r_isGood, rm_5, r_next hg hn hx, r_next hg hn hsk.2, skT_id hx, b1, rm_4, nI_1, rm_u4]
    · simp only [i108_58, i108_59, i108_60, i108_63, i108_64, i108_67, i108_68, nl_i, nl_r, nl_0, nl_j, nb0, nb1, nbI, orv_s, konN_v, konN_n, konN_e, true_and, and_true, and_self, if_true, if_false, ite_true, ite_false, isR_ref, true_or, or_true, bI_T, bI_F, bI_Fb, i1z, Bool.false_eq_true, r_k]
    · simp only [i108_58, i108_59, i108_60, i108_63, i108_64, i108_67, i108_68, i108_71, nl_i, nl_r, nl_0, nl_j, nb0, nb1, nbI, orv_s, konN_v, konN_n, konN_e, true_and, and_true, and_self, if_true, if_false, ite_true, ite_false, isR_ref, true_or, or_true, bI_T, bI_F, bI_Fb, i1z, Bool.false_eq_true, r_k, r_emitB h5]
      rw [i108_4]
      simp only [i108_5, i108_8, i108_74, nl_i, nl_r, nl_0, nl_j, nb0, nb1, nbI, orv_s, konN_v, konN_n, konN_e, true_and, and_true, and_self, if_true, if_false, ite_true, ite_false, isR_ref, true_or, or_true, bI_T, bI_F, bI_Fb, i1z, Bool.false_eq_true, r_k, r_isGood, h5]
  · have h2 : sgB g n (skT g n x) 47 = true := hsg.resolve_left h1
    have b2 : bA g n (skT g n x) = 47 := q2.mp h2
    have h1f : sgB g n (skT g n x) 42 = false := Bool.eq_false_iff.mpr h1
    refine ⟨-4, 5, by decide, fun e K nu l3 st sc => ?_, 0, fun e K l1 D => ?_, fun e K D x' => ?_, fun e K m D h5 => ?_⟩
    · rw [i41_12]
      simp only [i41_13, i41_14, i41_17, i41_20, i41_21, i41_23, i41_26, i41_29, i41_30, i41_32, i41_35, i41_38, i41_39, i41_41, i41_44, i41_47, i41_49, i41_52, i41_54, i41_55, i41_56, nl_i, nl_r, nl_0, nl_j, nb0, nb1, nbI, orv_s, konN_v, konN_n, konN_e, true_and, and_true, and_self, if_true, if_false, ite_true, ite_false, isR_ref, true_or, or_true, bI_T, bI_F, bI_Fb, i1z, Bool.false_eq_true, c_k, c_f2, rd_2, nI_le_zn hi2, zn_nI hn2, hin, not_true, c_signIs hv hn c1, c_signIs hv hn c2', h1f, h2, c_tok hv hn hsk.2, hnx.2]
    · rw [i108_4]
      simp only [i108_5, i108_8, i108_11, i108_12, i108_15, i108_17, i108_20, i108_21, i108_24, i108_26, i108_29, i108_30, i108_33, i108_35, i108_38, i108_39, i108_42, i108_43, i108_44, i108_45, i108_46, i108_49, i108_50, i108_51, nl_i, nl_r, nl_0, nl_j, nb0, nb1, nbI, orv_s, konN_v, konN_n, konN_e, true_and, and_true, and_self, if_true, if_false, ite_true, ite_false, isR_ref, true_or, or_true, bI_T, bI_F, bI_Fb, i1z, Bool.false_eq_true, r_k, r_f4, r_w4, r_isGood, rm_5, r_next hg hn hx, r_next hg hn hsk.2, skT_id hx, b2, n21, rm_4, nI_1, rm_u4]
    · simp only [i108_58, i108_59, i108_60, i108_63, i108_64, i108_67, i108_68, nl_i, nl_r, nl_0, nl_j, nb0, nb1, nbI, orv_s, konN_v, konN_n, konN_e, true_and, and_true, and_self, if_true, if_false, ite_true, ite_false, isR_ref, true_or, or_true, bI_T, bI_F, bI_Fb, i1z, Bool.false_eq_true, r_k]
    · simp only [i108_58, i108_59, i108_60, i108_63, i108_64, i108_67, i108_68, i108_71, nl_i, nl_r, nl_0, nl_j, nb0, nb1, nbI, orv_s, konN_v, konN_n, konN_e, true_and, and_true, and_self, if_true, if_false, ite_true, ite_false, isR_ref, true_or, or_true, bI_T, bI_F, bI_Fb, i1z, Bool.false_eq_true, r_k, r_emitB h5]
      rw [i108_4]
      simp only [i108_5, i108_8, i108_74, nl_i, nl_r, nl_0, nl_j, nb0, nb1, nbI, orv_s, konN_v, konN_n, konN_e, true_and, and_true, and_self, if_true, if_false, ite_true, ite_false, isR_ref, true_or, or_true, bI_T, bI_F, bI_Fb, i1z, Bool.false_eq_true, r_k, r_isGood, h5]
/-- what the loop of terms comes to -/
def jtermL (c c2 : HP) (g : Nat → Int32) (n : Nat) (ec hs ob ud sn : Int32) (kx dp : Nat) (x p0 sc0 nc0 : Nat) (st0 D0 : Nat → Int32) (L0 R0 : List Int32) (nu : Int32) (i : Nat) (l3 l1 : Option Value) : Prop :=
    (∃ x' nu' L R, x ≤ x' ∧ x' ≤ n ∧ GX (kx + 1) L R ∧ L.length ≤ x' - p0 ∧ 2 * R.length ≤ 3 * (x' - p0) + 1 ∧
      (∀ e K, 3 * (4 - dp) ≤ e → Ev (e + 6) 41 12 [some (.ref 13), some (.int (nI dp)), some (.int (nI i)), l3] [] (cH c (rd g n (skT g n x) nu ec hs (sc0 + L0.length)) (apL st0 sc0 L0)) K = K (.inl (some (.int 1))) (cH c (rd g n (skT g n x') nu' ec hs (sc0 + L.length)) (apL st0 sc0 L))) ∧
      (∀ e K, 3 * (4 - dp) ≤ e → Ev (e + 6) 108 4 [some (.ref 140), l1] [] (rH c2 (rm n x dp ob ud sn) (apR D0 nc0 R0)) K = K (.inl none) (rH c2 (rm n x' dp ob ud sn) (apR D0 nc0 R)))) ∨
    (∃ r' m' st' D', eEq r' m' ob ud ∧
      (∀ e K, 3 * (4 - dp) ≤ e → Ev (e + 6) 41 12 [some (.ref 13), some (.int (nI dp)), some (.int (nI i)), l3] [] (cH c (rd g n (skT g n x) nu ec hs (sc0 + L0.length)) (apL st0 sc0 L0)) K = K (.inl (some (.int 0))) (cH c r' st')) ∧
      (∀ e K, 3 * (4 - dp) ≤ e → Ev (e + 6) 108 4 [some (.ref 140), l1] [] (rH c2 (rm n x dp ob ud sn) (apR D0 nc0 R0)) K = K (.inl none) (rH c2 m' D')))
theorem j_termno (hv : bV (cB c) g n) (hg : rB c2 = g) (hn : n ≤ 700) {kx dp : Nat} {x p0 sc0 nc0 : Nat} {st0 D0 : Nat → Int32} {L0 R0 : List Int32} {nu : Int32} {i : Nat} {l3 l1 : Option Value} (hx : x ≤ n) (hp0 : p0 ≤ x) (hi : i ≤ x) (hG : GX (kx + 1) L0 R0) (hL : L0.length ≤ x - p0) (hR : 2 * R0.length ≤ 3 * (x - p0) + 1)
    (hsg : ¬ (sgB g n (skT g n x) 42 = true ∨ sgB g n (skT g n x) 47 = true)) : jtermL c c2 g n ec hs ob ud sn kx dp x p0 sc0 nc0 st0 D0 L0 R0 nu i l3 l1 := by
  have hsk := skT_le (g := g) hx
  have c1 : (0 : Int32) ≤ 42 ∧ (42 : Int32) < 128 := by decide
  have c2' : (0 : Int32) ≤ 47 ∧ (47 : Int32) < 128 := by decide
  have q1 : (sgB g n (skT g n x) 42 = true) = (bA g n (skT g n x) = 42) := sg_iff (by decide)
  have q2 : (sgB g n (skT g n x) 47 = true) = (bA g n (skT g n x) = 47) := sg_iff (by decide)
  have h1 : sgB g n (skT g n x) 42 = false := Bool.eq_false_iff.mpr (fun z => hsg (Or.inl z))
  have h2 : sgB g n (skT g n x) 47 = false := Bool.eq_false_iff.mpr (fun z => hsg (Or.inr z))
  have b1 : ¬ bA g n (skT g n x) = 42 := fun z => hsg (Or.inl (q1.mpr z))
  have b2 : ¬ bA g n (skT g n x) = 47 := fun z => hsg (Or.inr (q2.mpr z))
  have hi2 : i < 2 ^ 31 := by omega
  have hn2 : n < 2 ^ 31 := by omega
  refine Or.inl ⟨skT g n x, nu, L0, R0, hsk.1, hsk.2, hG, by omega, by omega, fun e K he => ?_, fun e K he => ?_⟩
  · rw [i41_12, skT_id hx]
    by_cases hin : i < n
    · simp only [i41_13, i41_14, i41_17, i41_20, i41_21, i41_23, i41_26, i41_29, i41_30, i41_32, i41_35, i41_80, i41_81, nl_i, nl_r, nl_0, nl_j, nb0, nb1, nbI, orv_s, konN_v, konN_n, konN_e, true_and, and_true, and_self, if_true, if_false, ite_true, ite_false, isR_ref, true_or, or_true, bI_T, bI_F, bI_Fb, i1z, Bool.false_eq_true, c_k, c_f2, rd_2, nI_le_zn hi2, zn_nI hn2, hin, not_true, c_signIs hv hn c1, c_signIs hv hn c2', h1, h2]
    · simp only [i41_13, i41_14, i41_17, i41_80, i41_81, nl_i, nl_r, nl_0, nl_j, nb0, nb1, nbI, orv_s, konN_v, konN_n, konN_e, true_and, and_true, and_self, if_true, if_false, ite_true, ite_false, isR_ref, true_or, or_true, bI_T, bI_F, bI_Fb, i1z, Bool.false_eq_true, c_k, c_f2, rd_2, nI_le_zn hi2, zn_nI hn2, hin, not_false_eq_true]
  · rw [i108_4]
    simp only [i108_5, i108_8, i108_11, i108_12, i108_15, i108_17, i108_20, i108_21, i108_24, i108_26, i108_74, nl_i, nl_r, nl_0, nl_j, nb0, nb1, nbI, orv_s, konN_v, konN_n, konN_e, true_and, and_true, and_self, if_true, if_false, ite_true, ite_false, isR_ref, true_or, or_true, bI_T, bI_F, bI_Fb, i1z, Bool.false_eq_true, r_k, r_isGood, rm_5, r_next hg hn hx, r_next hg hn hsk.2, skT_id hx, b1, b2]
/-- the loop of terms -/
theorem j_termloop (hv : bV (cB c) g n) (hg : rB c2 = g) (hn : n ≤ 700) {kx dp F : Nat} (hk : kx + 1 ≤ 11) (hS : jS c c2 g n ec hs ob ud sn 42 107 5 kx dp F) : ∀ Z x p0 sc0 nc0 st0 D0 L0 R0 nu i l3 l1, n - x < Z → n - x < F → x ≤ n → p0 ≤ x → i ≤ x → GX (kx + 1) L0 R0 → L0.length ≤ x - p0 → 2 * R0.length ≤ 3 * (x - p0) + 1 → sc0 ≤ p0 → 2 * nc0 + 1 ≤ 3 * p0 → D0 8 = nI nc0 → jtermL c c2 g n ec hs ob ud sn kx dp x p0 sc0 nc0 st0 D0 L0 R0 nu i l3 l1
  | 0, x, p0, sc0, nc0, st0, D0, L0, R0, nu, i, l3, l1, hz, _, _, _, _, _, _, _, _, _, _ => absurd hz (Nat.not_lt_zero _)
  | Z + 1, x, p0, sc0, nc0, st0, D0, L0, R0, nu, i, l3, l1, hz, hF, hx, hp0, hi, hG, hL, hR, hs0, hn0, hD => by
    by_cases hsg : sgB g n (skT g n x) 42 = true ∨ sgB g n (skT g n x) 47 = true
    · obtain ⟨hpn, oc, orr, hop, hC, w, hR1, hR2, hBad⟩ := j_termsg (ec := ec) (hs := hs) (ob := ob) (ud := ud) (sn := sn) (dp := dp) hv hg hn hx hi hsg
      have hsk := skT_le (g := g) hx
      have hsk1 := skT_le (g := g) (n := n) (p := skT g n x + 1) hpn
      clear hsg
      have z1 : n - (skT g n x + 1) < F ∧ sc0 + L0.length ≤ skT g n (skT g n x + 1) ∧ 2 * (nc0 + R0.length) + 1 ≤ 3 * skT g n (skT g n x + 1) := by clear hop; omega
      rcases hS (skT g n x + 1) (sc0 + L0.length) (nc0 + R0.length) (apL st0 sc0 L0) (apR D0 nc0 R0) nu hpn z1.1 z1.2.1 z1.2.2 (apR_8 R0 D0 nc0 hD) with ⟨x1, nu1, L1, R1, a1, a2, a3, a4, a5, a6, a7⟩ | ⟨r', m', st', D', b1, b2, b3⟩
      · have hl1 : (L0 ++ (L1 ++ [oc])).length = L0.length + (L1.length + 1) := by simp
        have hr1 : (R0 ++ (R1 ++ [orr])).length = R0.length + (R1.length + 1) := by simp
        have z2 : n - x1 < Z ∧ n - x1 < F ∧ p0 ≤ x1 ∧ i + 1 ≤ x1 ∧ L0.length + (L1.length + 1) ≤ x1 - p0 ∧ 2 * (R0.length + (R1.length + 1)) ≤ 3 * (x1 - p0) + 1 ∧ sc0 + L0.length + L1.length < 700 ∧ nc0 + R0.length + R1.length < 1200 ∧ x ≤ x1 := by clear hop; omega
        obtain ⟨y1, y2, y3, y4, y5, y6, y7, y8, y9⟩ := z2
        have eL : upd (apL (apL st0 sc0 L0) (sc0 + L0.length) L1) (sc0 + L0.length + L1.length) oc = apL st0 sc0 (L0 ++ (L1 ++ [oc])) := by
          rw [apL_app, apL_app]
          rfl
        have eR : upd (upd (apR (apR D0 nc0 R0) (nc0 + R0.length) R1) (251 + (nc0 + R0.length + R1.length)) orr) 8 (nI (nc0 + R0.length + R1.length + 1)) = apR D0 nc0 (R0 ++ (R1 ++ [orr])) := by
          rw [apR_app, apR_app]
          rfl
        have e8 := apR_8 R1 (apR D0 nc0 R0) (nc0 + R0.length) (apR_8 R0 D0 nc0 hD)
        have sc1 : sc0 + L0.length + L1.length + 1 = sc0 + (L0 ++ (L1 ++ [oc])).length := by rw [hl1, Nat.add_assoc, Nat.add_assoc]
        have goC : ∀ e K, 3 * (4 - dp) ≤ e → Ev (e + 6) 41 12 [some (.ref 13), some (.int (nI dp)), some (.int (nI i)), l3] [] (cH c (rd g n (skT g n x) nu ec hs (sc0 + L0.length)) (apL st0 sc0 L0)) K = Ev (e + 6) 41 12 [some (.ref 13), some (.int (nI dp)), some (.int (nI (i + 1))), some (.int oc)] [] (cH c (rd g n (skT g n x1) nu1 ec hs (sc0 + (L0 ++ (L1 ++ [oc])).length)) (apL st0 sc0 (L0 ++ (L1 ++ [oc])))) K := fun e K he => by
          have k1 := fun K => a6 e K he
          rw [hC]
          simp only [i41_59, i41_60, i41_61, i41_64, i41_67, i41_68, i41_69, i41_70, i41_71, i41_74, i41_77, nl_i, nl_r, nl_0, nl_j, nb0, nb1, nbI, orv_s, konN_v, konN_n, konN_e, true_and, and_true, and_self, if_true, if_false, ite_true, ite_false, isR_ref, true_or, or_true, bI_T, bI_F, bI_Fb, i1z, Bool.false_eq_true, c_k, k1, c_putStep y7, nI_1, eL, sc1]
        have goR : ∀ e K, 3 * (4 - dp) ≤ e → Ev (e + 6) 108 4 [some (.ref 140), l1] [] (rH c2 (rm n x dp ob ud sn) (apR D0 nc0 R0)) K = Ev (e + 6) 108 4 [some (.ref 140), some (.int w)] [] (rH c2 (rm n x1 dp ob ud sn) (apR D0 nc0 (R0 ++ (R1 ++ [orr])))) K := fun e K he => by
          have k1 := fun K => a7 e K he
          rw [hR1]
          simp only [i108_54, i108_55, nl_i, nl_r, nl_0, nl_j, nb0, nb1, nbI, orv_s, konN_v, konN_n, konN_e, true_and, and_true, and_self, if_true, if_false, ite_true, ite_false, isR_ref, true_or, or_true, bI_T, bI_F, bI_Fb, i1z, Bool.false_eq_true, r_k, k1]
          rw [hR2, r_emit e8 y8, eR]
          simp only [i108_71, nl_i, nl_r, nl_0, nl_j, nb0, nb1, nbI, orv_s, konN_v, konN_n, konN_e, true_and, and_true, and_self, if_true, if_false, ite_true, ite_false, isR_ref, true_or, or_true, bI_T, bI_F, bI_Fb, i1z, Bool.false_eq_true]
        rcases j_termloop hv hg hn hk hS Z x1 p0 sc0 nc0 st0 D0 (L0 ++ (L1 ++ [oc])) (R0 ++ (R1 ++ [orr])) nu1 (i + 1) (some (.int oc)) (some (.int w)) y1 y2 a2 y3 y4 (gx_bin hG a3 hop) (by rw [hl1]; exact y5) (by rw [hr1]; exact y6) hs0 hn0 hD with ⟨x2, nu2, L2, R2, i1, i2, i3, i4, i5, i6, i7⟩ | ⟨r', m', st', D', b1, b2, b3⟩
        · exact Or.inl ⟨x2, nu2, L2, R2, Nat.le_trans y9 i1, i2, i3, i4, i5, fun e K he => (goC e K he).trans (i6 e K he), fun e K he => (goR e K he).trans (i7 e K he)⟩
        · exact Or.inr ⟨r', m', st', D', b1, fun e K he => (goC e K he).trans (b2 e K he), fun e K he => (goR e K he).trans (b3 e K he)⟩
      · refine Or.inr ⟨r', m', st', D', b1, fun e K he => ?_, fun e K he => ?_⟩
        · have k1 := fun K => b2 e K he
          rw [hC]
          simp only [i41_59, i41_60, i41_61, i41_64, i41_67, i41_68, nl_i, nl_r, nl_0, nl_j, nb0, nb1, nbI, orv_s, konN_v, konN_n, konN_e, true_and, and_true, and_self, if_true, if_false, ite_true, ite_false, isR_ref, true_or, or_true, bI_T, bI_F, bI_Fb, i1z, Bool.false_eq_true, c_k, k1]
        · have k1 := fun K => b3 e K he
          rw [hR1]
          simp only [i108_54, i108_55, nl_i, nl_r, nl_0, nl_j, nb0, nb1, nbI, orv_s, konN_v, konN_n, konN_e, true_and, and_true, and_self, if_true, if_false, ite_true, ite_false, isR_ref, true_or, or_true, bI_T, bI_F, bI_Fb, i1z, Bool.false_eq_true, r_k, k1]
          exact hBad e K m' D' b1.1
    · exact j_termno hv hg hn hx hp0 hi hG hL hR hsg
theorem j_term (hv : bV (cB c) g n) (hg : rB c2 = g) (hn : n ≤ 700) {kx dp F : Nat} (hk : kx + 1 ≤ 11) (hS : jS c c2 g n ec hs ob ud sn 42 107 5 kx dp F) : jS c c2 g n ec hs ob ud sn 41 108 6 (kx + 1) dp F := by
  intro x sc nc st D nu hx hF hsc hnc hD
  have hsk := skT_le (g := g) hx
  rcases hS x sc nc st D nu hx hF hsc hnc hD with ⟨x1, nu1, L1, R1, a1, a2, a3, a4, a5, a6, a7⟩ | ⟨r', m', st', D', b1, b2, b3⟩
  · have z1 : n - x1 < n - x1 + 1 ∧ n - x1 < F ∧ skT g n x ≤ x1 ∧ 0 ≤ x1 := by omega
    rcases j_termloop hv hg hn hk hS (n - x1 + 1) x1 (skT g n x) sc nc st D L1 R1 nu1 0 none none z1.1 z1.2.1 a2 z1.2.2.1 z1.2.2.2 (gx_mono a3 (Nat.le_succ _)) a4 a5 hsc hnc hD with ⟨x2, nu2, L2, R2, i1, i2, i3, i4, i5, i6, i7⟩ | ⟨r', m', st', D', b1, b2, b3⟩
    · refine Or.inl ⟨x2, nu2, L2, R2, Nat.lt_of_lt_of_le a1 i1, i2, i3, i4, i5, fun e K he => ?_, fun e K he => ?_⟩
      · have k := i6 e K he
        have k1 := fun K => a6 e K he
        rw [nI_0] at k
        simp only [i41_0, i41_1, i41_2, i41_5, i41_8, i41_9, i41_10, i41_11, in41, nl_i, nl_r, nl_0, nl_j, nb0, nb1, nbI, orv_s, konN_v, konN_n, konN_e, true_and, and_true, and_self, if_true, if_false, ite_true, ite_false, isR_ref, true_or, or_true, bI_T, bI_F, bI_Fb, i1z, Bool.false_eq_true, c_k, k1, k]
      · have k := i7 e K he
        have k1 := fun K => a7 e K he
        simp only [i108_0, i108_1, in108, nl_i, nl_r, nl_0, nl_j, nb0, nb1, nbI, orv_s, konN_v, konN_n, konN_e, true_and, and_true, and_self, if_true, if_false, ite_true, ite_false, isR_ref, true_or, or_true, bI_T, bI_F, bI_Fb, i1z, Bool.false_eq_true, r_k, k1, k]
    · refine Or.inr ⟨r', m', st', D', b1, fun e K he => ?_, fun e K he => ?_⟩
      · have k := b2 e K he
        have k1 := fun K => a6 e K he
        rw [nI_0] at k
        simp only [i41_0, i41_1, i41_2, i41_5, i41_8, i41_9, i41_10, i41_11, in41, nl_i, nl_r, nl_0, nl_j, nb0, nb1, nbI, orv_s, konN_v, konN_n, konN_e, true_and, and_true, and_self, if_true, if_false, ite_true, ite_false, isR_ref, true_or, or_true, bI_T, bI_F, bI_Fb, i1z, Bool.false_eq_true, c_k, k1, k]
      · have k := b3 e K he
        have k1 := fun K => a7 e K he
        simp only [i108_0, i108_1, in108, nl_i, nl_r, nl_0, nl_j, nb0, nb1, nbI, orv_s, konN_v, konN_n, konN_e, true_and, and_true, and_self, if_true, if_false, ite_true, ite_false, isR_ref, true_or, or_true, bI_T, bI_F, bI_Fb, i1z, Bool.false_eq_true, r_k, k1, k]
  · refine Or.inr ⟨r', m', st', D', b1, fun e K he => ?_, fun e K he => ?_⟩
    · have k1 := fun K => b2 e K he
      simp only [i41_0, i41_1, i41_2, i41_5, i41_8, i41_9, in41, nl_i, nl_r, nl_0, nl_j, nb0, nb1, nbI, orv_s, konN_v, konN_n, konN_e, true_and, and_true, and_self, if_true, if_false, ite_true, ite_false, isR_ref, true_or, or_true, bI_T, bI_F, bI_Fb, i1z, Bool.false_eq_true, c_k, k1]
    · have k1 := fun K => b3 e K he
      simp only [i108_0, i108_1, in108, nl_i, nl_r, nl_0, nl_j, nb0, nb1, nbI, orv_s, konN_v, konN_n, konN_e, true_and, and_true, and_self, if_true, if_false, ite_true, ite_false, isR_ref, true_or, or_true, bI_T, bI_F, bI_Fb, i1z, Bool.false_eq_true, r_k, k1]
      rw [i108_4]
      simp only [i108_5, i108_8, i108_74, nl_i, nl_r, nl_0, nl_j, nb0, nb1, nbI, orv_s, konN_v, konN_n, konN_e, true_and, and_true, and_self, if_true, if_false, ite_true, ite_false, isR_ref, true_or, or_true, bI_T, bI_F, bI_Fb, i1z, Bool.false_eq_true, r_k, r_isGood, b1.1]

/-- a sign of sums: both are behind it -/
theorem j_sumsg (hv : bV (cB c) g n) (hg : rB c2 = g) (hn : n ≤ 700) {dp x i : Nat} (hx : x ≤ n) (hi : i ≤ x) (hsg : sgB g n (skT g n x) 43 = true ∨ sgB g n (skT g n x) 45 = true) :
    skT g n x < n ∧ ∃ oc orr : Int32, ((oc = -1 ∧ orr = 2) ∨ (oc = -2 ∧ orr = 3) ∨ (oc = -3 ∧ orr = 4) ∨ (oc = -4 ∧ orr = 5)) ∧
          (∀ e K nu l3 st sc, Ev (e + 7) 40 12 [some (.ref 13), some (.int (nI dp)), some (.int (nI i)), l3] [] (cH c (rd g n (skT g n x) nu ec hs sc) st) K = Ev (e + 7) 40 58 [some (.ref 13), some (.int (nI dp)), some (.int (nI i)), some (.int oc)] [] (cH c (rd g n (skT g n (skT g n x + 1)) nu ec hs sc) st) K) ∧
          ∃ w : Int32, (∀ e K l1 D, Ev (e + 7) 109 4 [some (.ref 140), l1] [] (rH c2 (rm n x dp ob ud sn) D) K = Ev (e + 7) 109 54 [some (.ref 140), some (.int w)] [] (rH c2 (rm n (skT g n x + 1) dp ob ud sn) D) K) ∧
            (∀ e K D x', Ev (e + 7) 109 58 [some (.ref 140), some (.int w)] [] (rH c2 (rm n x' dp ob ud sn) D) K = EvM (e + 6) 106 [.ref 140, .int orr] (rH c2 (rm n x' dp ob ud sn) D) (konN (e + 7) 109 71 [some (.ref 140), some (.int w)] [] K)) ∧
            (∀ e K m D, ¬ m 5 = 0 → Ev (e + 7) 109 58 [some (.ref 140), some (.int w)] [] (rH c2 m D) K = K (.inl none) (rH c2 m D)) := by
  have hsk := skT_le (g := g) hx
  have c1 : (0 : Int32) ≤ 43 ∧ (43 : Int32) < 128 := by decide
  have c2' : (0 : Int32) ≤ 45 ∧ (45 : Int32) < 128 := by decide
  have q1 : (sgB g n (skT g n x) 43 = true) = (bA g n (skT g n x) = 43) := sg_iff (by decide)
  have q2 : (sgB g n (skT g n x) 45 = true) = (bA g n (skT g n x) = 45) := sg_iff (by decide)
  have n21 : ¬ (45 : Int32) = 43 := by decide
  have hnx : skT g n x < n ∧ nxT g n (skT g n x) = skT g n (skT g n x + 1) := by
    rcases hsg with h | h
    · exact nxT_sg h
    · exact nxT_sg h
  refine ⟨hnx.1, ?_⟩
  have hin : i < n := by omega
  have hi2 : i < 2 ^ 31 := by omega
  have hn2 : n < 2 ^ 31 := by omega
  by_cases h1 : sgB g n (skT g n x) 43 = true
  · have b1 : bA g n (skT g n x) = 43 := q1.mp h1
    refine ⟨-1, 2, by decide, fun e K nu l3 st sc => ?_, 1, fun e K l1 D => ?_, fun e K D x' => ?_, fun e K m D h5 => ?_⟩
    · rw [i40_12]
      simp only [i40_13, i40_14, i40_17, i40_20, i40_21, i40_23, i40_26, i40_29, i40_30, i40_32, i40_35, i40_38, i40_39, i40_41, i40_44, i40_47, i40_48, i40_51, i40_53, i40_54, i40_55, nl_i, nl_r, nl_0, nl_j, nb0, nb1, nbI, orv_s, konN_v, konN_n, konN_e, true_and, and_true, and_self, if_true, if_false, ite_true, ite_false, isR_ref, true_or, or_true, bI_T, bI_F, bI_Fb, i1z, Bool.false_eq_true, c_k, c_f2, rd_2, nI_le_zn hi2, zn_nI hn2, hin, not_true, c_signIs hv hn c1, c_signIs hv hn c2', h1, c_tok hv hn hsk.2, hnx.2]
    · rw [i109_4]
      simp only [i109_5, i109_8, i109_11, i109_12, i109_15, i109_17, i109_20, i109_21, i109_24, i109_26, i109_29, i109_30, i109_33, i109_35, i109_38, i109_39, i109_42, i109_43, i109_44, i109_45, i109_46, i109_49, i109_50, i109_51, nl_i, nl_r, nl_0, nl_j, nb0, nb1, nbI, orv_s, konN_v, konN_n, konN_e, true_and, and_true, and_self, if_true, if_false, ite_true, ite_false, isR_ref, true_or, or_true, bI_T, bI_F, bI_Fb, i1z, Bool.false_eq_true, r_k, r_f4, r_w4, r_isGood, rm_5, r_next hg hn hx, r_next hg hn hsk.2, skT_id hx, b1, rm_4, nI_1, rm_u4]
    · simp only [i109_58, i109_59, i109_60, i109_63, i109_64, i109_67, i109_68, nl_i, nl_r, nl_0, nl_j, nb0, nb1, nbI, orv_s, konN_v, konN_n, konN_e, true_and, and_true, and_self, if_true, if_false, ite_true, ite_false, isR_ref, true_or, or_true, bI_T, bI_F, bI_Fb, i1z, Bool.false_eq_true, r_k]
    · simp only [i109_58, i109_59, i109_60, i109_63, i109_64, i109_67, i109_68, i109_71, nl_i, nl_r, nl_0, nl_j, nb0, nb1, nbI, orv_s, konN_v, konN_n, konN_e, true_and, and_true, and_self, if_true, if_false, ite_true, ite_false, isR_ref, true_or, or_true, bI_T, bI_F, bI_Fb, i1z, Bool.false_eq_true, r_k, r_emitB h5]
      rw [i109_4]
      simp only [i109_5, i109_8, i109_74, nl_i, nl_r, nl_0, nl_j, nb0, nb1, nbI, orv_s, konN_v, konN_n, konN_e, true_and, and_true, and_self, if_true, if_false, ite_true, ite_false, isR_ref, true_or, or_true, bI_T, bI_F, bI_Fb, i1z, Bool.false_eq_true, r_k, r_isGood, h5]
  · have h2 : sgB g n (skT g n x) 45 = true := hsg.resolve_left h1
    have b2 : bA g n (skT g n x) = 45 := q2.mp h2
    have h1f : sgB g n (skT g n x) 43 = false := Bool.eq_false_iff.mpr h1
    refine ⟨-2, 3, by decide, fun e K nu l3 st sc => ?_, 0, fun e K l1 D => ?_, fun e K D x' => ?_, fun e K m D h5 => ?_⟩
    · rw [i40_12]
      simp only [i40_13, i40_14, i40_17, i40_20, i40_21, i40_23, i40_26, i40_29, i40_30, i40_32, i40_35, i40_38, i40_39, i40_41, i40_44, i40_47, i40_48, i40_51, i40_53, i40_54, i40_55, nl_i, nl_r, nl_0, nl_j, nb0, nb1, nbI, orv_s, konN_v, konN_n, konN_e, true_and, and_true, and_self, if_true, if_false, ite_true, ite_false, isR_ref, true_or, or_true, bI_T, bI_F, bI_Fb, i1z, Bool.false_eq_true, c_k, c_f2, rd_2, nI_le_zn hi2, zn_nI hn2, hin, not_true, c_signIs hv hn c1, c_signIs hv hn c2', h1f, h2, c_tok hv hn hsk.2, hnx.2]
    · rw [i109_4]
      simp only [i109_5, i109_8, i109_11, i109_12, i109_15, i109_17, i109_20, i109_21, i109_24, i109_26, i109_29, i109_30, i109_33, i109_35, i109_38, i109_39, i109_42, i109_43, i109_44, i109_45, i109_46, i109_49, i109_50, i109_51, nl_i, nl_r, nl_0, nl_j, nb0, nb1, nbI, orv_s, konN_v, konN_n, konN_e, true_and, and_true, and_self, if_true, if_false, ite_true, ite_false, isR_ref, true_or, or_true, bI_T, bI_F, bI_Fb, i1z, Bool.false_eq_true, r_k, r_f4, r_w4, r_isGood, rm_5, r_next hg hn hx, r_next hg hn hsk.2, skT_id hx, b2, n21, rm_4, nI_1, rm_u4]
    · simp only [i109_58, i109_59, i109_60, i109_63, i109_64, i109_67, i109_68, nl_i, nl_r, nl_0, nl_j, nb0, nb1, nbI, orv_s, konN_v, konN_n, konN_e, true_and, and_true, and_self, if_true, if_false, ite_true, ite_false, isR_ref, true_or, or_true, bI_T, bI_F, bI_Fb, i1z, Bool.false_eq_true, r_k]
    · simp only [i109_58, i109_59, i109_60, i109_63, i109_64, i109_67, i109_68, i109_71, nl_i, nl_r, nl_0, nl_j, nb0, nb1, nbI, orv_s, konN_v, konN_n, konN_e, true_and, and_true, and_self, if_true, if_false, ite_true, ite_false, isR_ref, true_or, or_true, bI_T, bI_F, bI_Fb, i1z, Bool.false_eq_true, r_k, r_emitB h5]
      rw [i109_4]
      simp only [i109_5, i109_8, i109_74, nl_i, nl_r, nl_0, nl_j, nb0, nb1, nbI, orv_s, konN_v, konN_n, konN_e, true_and, and_true, and_self, if_true, if_false, ite_true, ite_false, isR_ref, true_or, or_true, bI_T, bI_F, bI_Fb, i1z, Bool.false_eq_true, r_k, r_isGood, h5]
/-- what the loop of sums comes to -/
def jsumL (c c2 : HP) (g : Nat → Int32) (n : Nat) (ec hs ob ud sn : Int32) (kx dp : Nat) (x p0 sc0 nc0 : Nat) (st0 D0 : Nat → Int32) (L0 R0 : List Int32) (nu : Int32) (i : Nat) (l3 l1 : Option Value) : Prop :=
    (∃ x' nu' L R, x ≤ x' ∧ x' ≤ n ∧ GX (kx + 1) L R ∧ L.length ≤ x' - p0 ∧ 2 * R.length ≤ 3 * (x' - p0) + 1 ∧
      (∀ e K, 3 * (4 - dp) ≤ e → Ev (e + 7) 40 12 [some (.ref 13), some (.int (nI dp)), some (.int (nI i)), l3] [] (cH c (rd g n (skT g n x) nu ec hs (sc0 + L0.length)) (apL st0 sc0 L0)) K = K (.inl (some (.int 1))) (cH c (rd g n (skT g n x') nu' ec hs (sc0 + L.length)) (apL st0 sc0 L))) ∧
      (∀ e K, 3 * (4 - dp) ≤ e → Ev (e + 7) 109 4 [some (.ref 140), l1] [] (rH c2 (rm n x dp ob ud sn) (apR D0 nc0 R0)) K = K (.inl none) (rH c2 (rm n x' dp ob ud sn) (apR D0 nc0 R)))) ∨
    (∃ r' m' st' D', eEq r' m' ob ud ∧
      (∀ e K, 3 * (4 - dp) ≤ e → Ev (e + 7) 40 12 [some (.ref 13), some (.int (nI dp)), some (.int (nI i)), l3] [] (cH c (rd g n (skT g n x) nu ec hs (sc0 + L0.length)) (apL st0 sc0 L0)) K = K (.inl (some (.int 0))) (cH c r' st')) ∧
      (∀ e K, 3 * (4 - dp) ≤ e → Ev (e + 7) 109 4 [some (.ref 140), l1] [] (rH c2 (rm n x dp ob ud sn) (apR D0 nc0 R0)) K = K (.inl none) (rH c2 m' D')))
theorem j_sumno (hv : bV (cB c) g n) (hg : rB c2 = g) (hn : n ≤ 700) {kx dp : Nat} {x p0 sc0 nc0 : Nat} {st0 D0 : Nat → Int32} {L0 R0 : List Int32} {nu : Int32} {i : Nat} {l3 l1 : Option Value} (hx : x ≤ n) (hp0 : p0 ≤ x) (hi : i ≤ x) (hG : GX (kx + 1) L0 R0) (hL : L0.length ≤ x - p0) (hR : 2 * R0.length ≤ 3 * (x - p0) + 1)
    (hsg : ¬ (sgB g n (skT g n x) 43 = true ∨ sgB g n (skT g n x) 45 = true)) : jsumL c c2 g n ec hs ob ud sn kx dp x p0 sc0 nc0 st0 D0 L0 R0 nu i l3 l1 := by
  have hsk := skT_le (g := g) hx
  have c1 : (0 : Int32) ≤ 43 ∧ (43 : Int32) < 128 := by decide
  have c2' : (0 : Int32) ≤ 45 ∧ (45 : Int32) < 128 := by decide
  have q1 : (sgB g n (skT g n x) 43 = true) = (bA g n (skT g n x) = 43) := sg_iff (by decide)
  have q2 : (sgB g n (skT g n x) 45 = true) = (bA g n (skT g n x) = 45) := sg_iff (by decide)
  have h1 : sgB g n (skT g n x) 43 = false := Bool.eq_false_iff.mpr (fun z => hsg (Or.inl z))
  have h2 : sgB g n (skT g n x) 45 = false := Bool.eq_false_iff.mpr (fun z => hsg (Or.inr z))
  have b1 : ¬ bA g n (skT g n x) = 43 := fun z => hsg (Or.inl (q1.mpr z))
  have b2 : ¬ bA g n (skT g n x) = 45 := fun z => hsg (Or.inr (q2.mpr z))
  have hi2 : i < 2 ^ 31 := by omega
  have hn2 : n < 2 ^ 31 := by omega
  refine Or.inl ⟨skT g n x, nu, L0, R0, hsk.1, hsk.2, hG, by omega, by omega, fun e K he => ?_, fun e K he => ?_⟩
  · rw [i40_12, skT_id hx]
    by_cases hin : i < n
    · simp only [i40_13, i40_14, i40_17, i40_20, i40_21, i40_23, i40_26, i40_29, i40_30, i40_32, i40_35, i40_79, i40_80, nl_i, nl_r, nl_0, nl_j, nb0, nb1, nbI, orv_s, konN_v, konN_n, konN_e, true_and, and_true, and_self, if_true, if_false, ite_true, ite_false, isR_ref, true_or, or_true, bI_T, bI_F, bI_Fb, i1z, Bool.false_eq_true, c_k, c_f2, rd_2, nI_le_zn hi2, zn_nI hn2, hin, not_true, c_signIs hv hn c1, c_signIs hv hn c2', h1, h2]
    · simp only [i40_13, i40_14, i40_17, i40_79, i40_80, nl_i, nl_r, nl_0, nl_j, nb0, nb1, nbI, orv_s, konN_v, konN_n, konN_e, true_and, and_true, and_self, if_true, if_false, ite_true, ite_false, isR_ref, true_or, or_true, bI_T, bI_F, bI_Fb, i1z, Bool.false_eq_true, c_k, c_f2, rd_2, nI_le_zn hi2, zn_nI hn2, hin, not_false_eq_true]
  · rw [i109_4]
    simp only [i109_5, i109_8, i109_11, i109_12, i109_15, i109_17, i109_20, i109_21, i109_24, i109_26, i109_74, nl_i, nl_r, nl_0, nl_j, nb0, nb1, nbI, orv_s, konN_v, konN_n, konN_e, true_and, and_true, and_self, if_true, if_false, ite_true, ite_false, isR_ref, true_or, or_true, bI_T, bI_F, bI_Fb, i1z, Bool.false_eq_true, r_k, r_isGood, rm_5, r_next hg hn hx, r_next hg hn hsk.2, skT_id hx, b1, b2]
/-- the loop of sums -/
theorem j_sumloop (hv : bV (cB c) g n) (hg : rB c2 = g) (hn : n ≤ 700) {kx dp F : Nat} (hk : kx + 1 ≤ 11) (hS : jS c c2 g n ec hs ob ud sn 41 108 6 kx dp F) : ∀ Z x p0 sc0 nc0 st0 D0 L0 R0 nu i l3 l1, n - x < Z → n - x < F → x ≤ n → p0 ≤ x → i ≤ x → GX (kx + 1) L0 R0 → L0.length ≤ x - p0 → 2 * R0.length ≤ 3 * (x - p0) + 1 → sc0 ≤ p0 → 2 * nc0 + 1 ≤ 3 * p0 → D0 8 = nI nc0 → jsumL c c2 g n ec hs ob ud sn kx dp x p0 sc0 nc0 st0 D0 L0 R0 nu i l3 l1
  | 0, x, p0, sc0, nc0, st0, D0, L0, R0, nu, i, l3, l1, hz, _, _, _, _, _, _, _, _, _, _ => absurd hz (Nat.not_lt_zero _)
  | Z + 1, x, p0, sc0, nc0, st0, D0, L0, R0, nu, i, l3, l1, hz, hF, hx, hp0, hi, hG, hL, hR, hs0, hn0, hD => by
    by_cases hsg : sgB g n (skT g n x) 43 = true ∨ sgB g n (skT g n x) 45 = true
    · obtain ⟨hpn, oc, orr, hop, hC, w, hR1, hR2, hBad⟩ := j_sumsg (ec := ec) (hs := hs) (ob := ob) (ud := ud) (sn := sn) (dp := dp) hv hg hn hx hi hsg
      have hsk := skT_le (g := g) hx
      have hsk1 := skT_le (g := g) (n := n) (p := skT g n x + 1) hpn
      clear hsg
      have z1 : n - (skT g n x + 1) < F ∧ sc0 + L0.length ≤ skT g n (skT g n x + 1) ∧ 2 * (nc0 + R0.length) + 1 ≤ 3 * skT g n (skT g n x + 1) := by clear hop; omega
      rcases hS (skT g n x + 1) (sc0 + L0.length) (nc0 + R0.length) (apL st0 sc0 L0) (apR D0 nc0 R0) nu hpn z1.1 z1.2.1 z1.2.2 (apR_8 R0 D0 nc0 hD) with ⟨x1, nu1, L1, R1, a1, a2, a3, a4, a5, a6, a7⟩ | ⟨r', m', st', D', b1, b2, b3⟩
      · have hl1 : (L0 ++ (L1 ++ [oc])).length = L0.length + (L1.length + 1) := by simp
        have hr1 : (R0 ++ (R1 ++ [orr])).length = R0.length + (R1.length + 1) := by simp
        have z2 : n - x1 < Z ∧ n - x1 < F ∧ p0 ≤ x1 ∧ i + 1 ≤ x1 ∧ L0.length + (L1.length + 1) ≤ x1 - p0 ∧ 2 * (R0.length + (R1.length + 1)) ≤ 3 * (x1 - p0) + 1 ∧ sc0 + L0.length + L1.length < 700 ∧ nc0 + R0.length + R1.length < 1200 ∧ x ≤ x1 := by clear hop; omega
        obtain ⟨y1, y2, y3, y4, y5, y6, y7, y8, y9⟩ := z2
        have eL : upd (apL (apL st0 sc0 L0) (sc0 + L0.length) L1) (sc0 + L0.length + L1.length) oc = apL st0 sc0 (L0 ++ (L1 ++ [oc])) := by
          rw [apL_app, apL_app]
          rfl
        have eR : upd (upd (apR (apR D0 nc0 R0) (nc0 + R0.length) R1) (251 + (nc0 + R0.length + R1.length)) orr) 8 (nI (nc0 + R0.length + R1.length + 1)) = apR D0 nc0 (R0 ++ (R1 ++ [orr])) := by
          rw [apR_app, apR_app]
          rfl
        have e8 := apR_8 R1 (apR D0 nc0 R0) (nc0 + R0.length) (apR_8 R0 D0 nc0 hD)
        have sc1 : sc0 + L0.length + L1.length + 1 = sc0 + (L0 ++ (L1 ++ [oc])).length := by rw [hl1, Nat.add_assoc, Nat.add_assoc]
        have goC : ∀ e K, 3 * (4 - dp) ≤ e → Ev (e + 7) 40 12 [some (.ref 13), some (.int (nI dp)), some (.int (nI i)), l3] [] (cH c (rd g n (skT g n x) nu ec hs (sc0 + L0.length)) (apL st0 sc0 L0)) K = Ev (e + 7) 40 12 [some (.ref 13), some (.int (nI dp)), some (.int (nI (i + 1))), some (.int oc)] [] (cH c (rd g n (skT g n x1) nu1 ec hs (sc0 + (L0 ++ (L1 ++ [oc])).length)) (apL st0 sc0 (L0 ++ (L1 ++ [oc])))) K := fun e K he => by
          have k1 := fun K => a6 e K he
          rw [hC]
          simp only [i40_58, i40_59, i40_60, i40_63, i40_66, i40_67, i40_68, i40_69, i40_70, i40_73, i40_76, nl_i, nl_r, nl_0, nl_j, nb0, nb1, nbI, orv_s, konN_v, konN_n, konN_e, true_and, and_true, and_self, if_true, if_false, ite_true, ite_false, isR_ref, true_or, or_true, bI_T, bI_F, bI_Fb, i1z, Bool.false_eq_true, c_k, k1, c_putStep y7, nI_1, eL, sc1]
        have goR : ∀ e K, 3 * (4 - dp) ≤ e → Ev (e + 7) 109 4 [some (.ref 140), l1] [] (rH c2 (rm n x dp ob ud sn) (apR D0 nc0 R0)) K = Ev (e + 7) 109 4 [some (.ref 140), some (.int w)] [] (rH c2 (rm n x1 dp ob ud sn) (apR D0 nc0 (R0 ++ (R1 ++ [orr])))) K := fun e K he => by
          have k1 := fun K => a7 e K he
          rw [hR1]
          simp only [i109_54, i109_55, nl_i, nl_r, nl_0, nl_j, nb0, nb1, nbI, orv_s, konN_v, konN_n, konN_e, true_and, and_true, and_self, if_true, if_false, ite_true, ite_false, isR_ref, true_or, or_true, bI_T, bI_F, bI_Fb, i1z, Bool.false_eq_true, r_k, k1]
          rw [hR2, r_emit e8 y8, eR]
          simp only [i109_71, nl_i, nl_r, nl_0, nl_j, nb0, nb1, nbI, orv_s, konN_v, konN_n, konN_e, true_and, and_true, and_self, if_true, if_false, ite_true, ite_false, isR_ref, true_or, or_true, bI_T, bI_F, bI_Fb, i1z, Bool.false_eq_true]
        rcases j_sumloop hv hg hn hk hS Z x1 p0 sc0 nc0 st0 D0 (L0 ++ (L1 ++ [oc])) (R0 ++ (R1 ++ [orr])) nu1 (i + 1) (some (.int oc)) (some (.int w)) y1 y2 a2 y3 y4 (gx_bin hG a3 hop) (by rw [hl1]; exact y5) (by rw [hr1]; exact y6) hs0 hn0 hD with ⟨x2, nu2, L2, R2, i1, i2, i3, i4, i5, i6, i7⟩ | ⟨r', m', st', D', b1, b2, b3⟩
        · exact Or.inl ⟨x2, nu2, L2, R2, Nat.le_trans y9 i1, i2, i3, i4, i5, fun e K he => (goC e K he).trans (i6 e K he), fun e K he => (goR e K he).trans (i7 e K he)⟩
        · exact Or.inr ⟨r', m', st', D', b1, fun e K he => (goC e K he).trans (b2 e K he), fun e K he => (goR e K he).trans (b3 e K he)⟩
      · refine Or.inr ⟨r', m', st', D', b1, fun e K he => ?_, fun e K he => ?_⟩
        · have k1 := fun K => b2 e K he
          rw [hC]
          simp only [i40_58, i40_59, i40_60, i40_63, i40_66, i40_67, nl_i, nl_r, nl_0, nl_j, nb0, nb1, nbI, orv_s, konN_v, konN_n, konN_e, true_and, and_true, and_self, if_true, if_false, ite_true, ite_false, isR_ref, true_or, or_true, bI_T, bI_F, bI_Fb, i1z, Bool.false_eq_true, c_k, k1]
        · have k1 := fun K => b3 e K he
          rw [hR1]
          simp only [i109_54, i109_55, nl_i, nl_r, nl_0, nl_j, nb0, nb1, nbI, orv_s, konN_v, konN_n, konN_e, true_and, and_true, and_self, if_true, if_false, ite_true, ite_false, isR_ref, true_or, or_true, bI_T, bI_F, bI_Fb, i1z, Bool.false_eq_true, r_k, k1]
          exact hBad e K m' D' b1.1
    · exact j_sumno hv hg hn hx hp0 hi hG hL hR hsg
theorem j_sum (hv : bV (cB c) g n) (hg : rB c2 = g) (hn : n ≤ 700) {kx dp F : Nat} (hk : kx + 1 ≤ 11) (hS : jS c c2 g n ec hs ob ud sn 41 108 6 kx dp F) : jS c c2 g n ec hs ob ud sn 40 109 7 (kx + 1) dp F := by
  intro x sc nc st D nu hx hF hsc hnc hD
  have hsk := skT_le (g := g) hx
  rcases hS x sc nc st D nu hx hF hsc hnc hD with ⟨x1, nu1, L1, R1, a1, a2, a3, a4, a5, a6, a7⟩ | ⟨r', m', st', D', b1, b2, b3⟩
  · have z1 : n - x1 < n - x1 + 1 ∧ n - x1 < F ∧ skT g n x ≤ x1 ∧ 0 ≤ x1 := by omega
    rcases j_sumloop hv hg hn hk hS (n - x1 + 1) x1 (skT g n x) sc nc st D L1 R1 nu1 0 none none z1.1 z1.2.1 a2 z1.2.2.1 z1.2.2.2 (gx_mono a3 (Nat.le_succ _)) a4 a5 hsc hnc hD with ⟨x2, nu2, L2, R2, i1, i2, i3, i4, i5, i6, i7⟩ | ⟨r', m', st', D', b1, b2, b3⟩
    · refine Or.inl ⟨x2, nu2, L2, R2, Nat.lt_of_lt_of_le a1 i1, i2, i3, i4, i5, fun e K he => ?_, fun e K he => ?_⟩
      · have k := i6 e K he
        have k1 := fun K => a6 e K he
        rw [nI_0] at k
        simp only [i40_0, i40_1, i40_2, i40_5, i40_8, i40_9, i40_10, i40_11, in40, nl_i, nl_r, nl_0, nl_j, nb0, nb1, nbI, orv_s, konN_v, konN_n, konN_e, true_and, and_true, and_self, if_true, if_false, ite_true, ite_false, isR_ref, true_or, or_true, bI_T, bI_F, bI_Fb, i1z, Bool.false_eq_true, c_k, k1, k]
      · have k := i7 e K he
        have k1 := fun K => a7 e K he
        simp only [i109_0, i109_1, in109, nl_i, nl_r, nl_0, nl_j, nb0, nb1, nbI, orv_s, konN_v, konN_n, konN_e, true_and, and_true, and_self, if_true, if_false, ite_true, ite_false, isR_ref, true_or, or_true, bI_T, bI_F, bI_Fb, i1z, Bool.false_eq_true, r_k, k1, k]
    · refine Or.inr ⟨r', m', st', D', b1, fun e K he => ?_, fun e K he => ?_⟩
      · have k := b2 e K he
        have k1 := fun K => a6 e K he
        rw [nI_0] at k
        simp only [i40_0, i40_1, i40_2, i40_5, i40_8, i40_9, i40_10, i40_11, in40, nl_i, nl_r, nl_0, nl_j, nb0, nb1, nbI, orv_s, konN_v, konN_n, konN_e, true_and, and_true, and_self, if_true, if_false, ite_true, ite_false, isR_ref, true_or, or_true, bI_T, bI_F, bI_Fb, i1z, Bool.false_eq_true, c_k, k1, k]
      · have k := b3 e K he
        have k1 := fun K => a7 e K he
        simp only [i109_0, i109_1, in109, nl_i, nl_r, nl_0, nl_j, nb0, nb1, nbI, orv_s, konN_v, konN_n, konN_e, true_and, and_true, and_self, if_true, if_false, ite_true, ite_false, isR_ref, true_or, or_true, bI_T, bI_F, bI_Fb, i1z, Bool.false_eq_true, r_k, k1, k]
  · refine Or.inr ⟨r', m', st', D', b1, fun e K he => ?_, fun e K he => ?_⟩
    · have k1 := fun K => b2 e K he
      simp only [i40_0, i40_1, i40_2, i40_5, i40_8, i40_9, in40, nl_i, nl_r, nl_0, nl_j, nb0, nb1, nbI, orv_s, konN_v, konN_n, konN_e, true_and, and_true, and_self, if_true, if_false, ite_true, ite_false, isR_ref, true_or, or_true, bI_T, bI_F, bI_Fb, i1z, Bool.false_eq_true, c_k, k1]
    · have k1 := fun K => b3 e K he
      simp only [i109_0, i109_1, in109, nl_i, nl_r, nl_0, nl_j, nb0, nb1, nbI, orv_s, konN_v, konN_n, konN_e, true_and, and_true, and_self, if_true, if_false, ite_true, ite_false, isR_ref, true_or, or_true, bI_T, bI_F, bI_Fb, i1z, Bool.false_eq_true, r_k, k1]
      rw [i109_4]
      simp only [i109_5, i109_8, i109_74, nl_i, nl_r, nl_0, nl_j, nb0, nb1, nbI, orv_s, konN_v, konN_n, konN_e, true_and, and_true, and_self, if_true, if_false, ite_true, ite_false, isR_ref, true_or, or_true, bI_T, bI_F, bI_Fb, i1z, Bool.false_eq_true, r_k, r_isGood, b1.1]
end JT
