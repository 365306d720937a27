/-! FACE: what stands between the calls -/
def mH (c : HP) : AH := MH c.1 c.2.1 c.2.2.1 c.2.2.2.1 c.2.2.2.2.1 c.2.2.2.2.2.1 c.2.2.2.2.2.2
/-- the clock is m, each count is at most m -/
def CL (m : Nat) (f : Nat → Int32) (a : Nat → Nat → Int32) : Prop := f 1 = nI m ∧ ∀ j k, 7 ≤ j → j ≤ 9 → k < 20 → ∃ c, c ≤ m ∧ a j k = nI c
/-- the setup at g, the line f a: the data row D -/
def LR (h : AH) (T : Nat → Bool) (g : Nat) (f : Nat → Int32) (a : Nat → Nat → Int32) (D : Nat → Int32) : Prop :=
  ∃ t q sa n pg nz ns, SUp h T g t q sa n pg ∧ (g + 7 < hN h ∧ t + 2 < hN h) ∧ STA nz q sa n pg D ∧ INV nz ns f a ∧ EQL nz ns f a D ∧ ∃ m, m ≤ 100000 ∧ CL m f a
def rwI (nx kp i : Nat) : Nat := 52 + 11 * ((nx + 8 - kp + i) % 8)
def HR (h : AH) (T : Nat → Bool) (S A : Nat → Nat → Int32) (G : Nat → Nat) : Prop :=
  ∃ nx kp, (nx < 8 ∧ kp ≤ 8) ∧ (S 50 1 = nI nx ∧ S 50 2 = nI kp ∧ S 140 12 = nI kp) ∧ ∀ i, i < kp → LR h T (G (rwI nx kp i)) (S (rwI nx kp i)) (fun j => A (rwI nx kp i + j)) (A (146 + i))
def RR (S A : Nat → Nat → Int32) : Prop := ∃ fl, fl ≤ 700 ∧ (S 13 1 = nI fl ∧ S 140 2 = nI fl) ∧ S 13 8 = S 140 7 ∧ bV (A 14) (A 141) fl
def GR (h : AH) (T : Nat → Bool) (S A : Nat → Nat → Int32) (G : Nat → Nat) : Prop :=
  (156 ≤ hN h ∧ ∀ i, hN h ≤ i → T i = false) ∧ LR h T (G 28) (S 28) (fun j => A (28 + j)) (A 142) ∧ RR S A ∧ HR h T S A G
def GRc (c : HP) : Prop := GR c.1 c.2.1 c.2.2.2.1 c.2.2.2.2.1 c.2.2.2.2.2.2
def GN (c c' : HP) : Prop := GRc c' ∧ hN c.1 ≤ hN c'.1 ∧ hN c'.1 ≤ hN c.1 + 16 ∧ hS c'.1 ≤ hS c.1 + 1000 ∧ hX c'.1 = hX c.1
section CG
variable {h h' : AH} {T T' : Nat → Bool} {U U' S S' A A' : Nat → Nat → Int32} {J J' : Nat → Nat → Int64} {G G' : Nat → Nat} {g nz ns : Nat} {f D D' : Nat → Int32} {a a' : Nat → Nat → Int32} {v : Int32}
theorem INV_a (ha : ∀ j, 1 ≤ j → j ≤ 10 → a' j = a j) (hI : INV nz ns f a) : INV nz ns f a' := by
  unfold INV at *
  simp only [ha 1 (by omega) (by omega), ha 2 (by omega) (by omega), ha 3 (by omega) (by omega), ha 4 (by omega) (by omega), ha 5 (by omega) (by omega), ha 6 (by omega) (by omega), ha 10 (by omega) (by omega)]
  exact hI
theorem EQL_a (ha : ∀ j, 1 ≤ j → j ≤ 10 → a' j = a j) (hI : EQL nz ns f a D) : EQL nz ns f a' D := by
  unfold EQL at *
  simp only [ha 1 (by omega) (by omega), ha 2 (by omega) (by omega), ha 3 (by omega) (by omega), ha 4 (by omega) (by omega), ha 5 (by omega) (by omega), ha 6 (by omega) (by omega), ha 7 (by omega) (by omega), ha 8 (by omega) (by omega), ha 9 (by omega) (by omega), ha 10 (by omega) (by omega)]
  exact hI
theorem LR_cg (hL : LR h T g f a D) (h1 : fr (hN h) h h') (h2 : frT (hN h) T T') (hle : hN h ≤ hN h') (ha : ∀ j, 1 ≤ j → j ≤ 10 → a' j = a j) (hd : deq D D') : LR h' T' g f a' D' := by
  obtain ⟨t, q, sa, n, pg, nz, ns, s1, ⟨s2, s3⟩, s4, s5, s6, m, s7, s8, s9⟩ := hL
  have n6 := s4.1.2.1
  have n20 := s5.1.2.1
  exact ⟨t, q, sa, n, pg, nz, ns, SUp_fr h1 h2 s1 s2 s3, ⟨by omega, by omega⟩, STA_deq hd s4, INV_a ha s5, EQL_a ha (EQL_deq n6 n20 hd s6), m, s7, s8, fun j k j1 j2 hk => by rw [ha j (by omega) (by omega)]; exact s9 j k j1 j2 hk⟩
theorem rwI_le {nx kp i : Nat} : 52 ≤ rwI nx kp i ∧ rwI nx kp i + 10 ≤ 139 := by
  unfold rwI
  omega
theorem HR_cg (hH : HR h T S A G) (h1 : fr (hN h) h h') (h2 : frT (hN h) T T') (hle : hN h ≤ hN h') (hS : ∀ b k, 50 ≤ b → b ≤ 139 → S' b k = S b k) (h12 : S' 140 12 = S 140 12) (hA : ∀ i, 52 ≤ i → i ≤ 139 → A' i = A i) (hA2 : ∀ i, 146 ≤ i → i ≤ 153 → deq (A i) (A' i)) (hg : ∀ i, 52 ≤ i → i ≤ 139 → G' i = G i) : HR h' T' S' A' G' := by
  obtain ⟨nx, kp, ⟨n8, k8⟩, ⟨e1, e2, e3⟩, H⟩ := hH
  refine ⟨nx, kp, ⟨n8, k8⟩, ⟨(hS _ _ (by omega) (by omega)).trans e1, (hS _ _ (by omega) (by omega)).trans e2, h12.trans e3⟩, fun i hi => ?_⟩
  have hb := rwI_le (nx := nx) (kp := kp) (i := i)
  rw [hg _ hb.1 (by omega), show S' (rwI nx kp i) = S (rwI nx kp i) from funext fun k => hS _ k (by omega) (by omega)]
  exact LR_cg (H i hi) h1 h2 hle (fun j j1 j2 => hA _ (by omega) (by omega)) (hA2 _ (by omega) (by omega))
theorem frT_id {N : Nat} {T : Nat → Bool} : frT N T T := fun _ _ => rfl
theorem GR_s (hG : GR h T S A G) (h1 : fr (hN h) h h') (h2 : frT (hN h) T T') (hle : hN h ≤ hN h') (hT : ∀ i, hN h' ≤ i → T' i = false) (hS : ∀ i k, ¬ i = 39 → ¬ (i = 140 ∧ k = 0) → S' i k = S i k)
    (hA : ∀ i, i < 39 ∨ 49 < i → ¬ i = 142 → ¬ i = 143 → ¬ i = 144 → A' i = A i) (hd : deq (A 142) (A' 142)) (hg : ∀ i, ¬ i = 39 → G' i = G i) : GR h' T' S' A' G' := by
  obtain ⟨⟨a1, a2⟩, b, ⟨fl, c1, ⟨c2, c3⟩, c4, c5⟩, e⟩ := hG
  refine ⟨⟨by omega, hT⟩, ?_, ⟨fl, c1, ⟨(hS _ _ (by omega) (by omega)).trans c2, (hS _ _ (by omega) (by omega)).trans c3⟩, ?_, ?_⟩, ?_⟩
  · rw [hg 28 (by omega), show S' 28 = S 28 from funext fun k => hS _ k (by omega) (by omega)]
    exact LR_cg b h1 h2 hle (fun j j1 j2 => hA _ (by omega) (by omega) (by omega) (by omega)) hd
  · rw [hS _ _ (by omega) (by omega), hS _ _ (by omega) (by omega)]
    exact c4
  · rw [hA _ (by omega) (by omega) (by omega) (by omega), hA _ (by omega) (by omega) (by omega) (by omega)]
    exact c5
  · exact HR_cg e h1 h2 hle (fun b k j1 j2 => hS _ _ (by omega) (by omega)) (hS _ _ (by omega) (by omega)) (fun i j1 j2 => hA _ (by omega) (by omega) (by omega) (by omega)) (fun i j1 j2 => (by rw [hA _ (by omega) (by omega) (by omega) (by omega)]; exact deq_id)) (fun i j1 j2 => hg _ (by omega))
theorem GN_s (hG : GR h T S A G) (hS : ∀ i k, ¬ i = 39 → ¬ (i = 140 ∧ k = 0) → S' i k = S i k)
    (hA : ∀ i, i < 39 ∨ 49 < i → ¬ i = 142 → ¬ i = 143 → ¬ i = 144 → A' i = A i) (hd : deq (A 142) (A' 142)) (hg : ∀ i, ¬ i = 39 → G' i = G i) : GN (h, T, U, S, A, J, G) (h, T, U', S', A', J', G') :=
  ⟨GR_s hG fr_id frT_id (Nat.le_refl _) hG.1.2 hS hA hd hg, Nat.le_refl _, Nat.le_add_right _ _, Nat.le_add_right _ _, rfl⟩
theorem GN_x (hG : GR h T S A G) (hSS : ∀ i k, ¬ i = 39 → ¬ (i = 140 ∧ k = 0) → S' i k = S i k)
    (hA : ∀ i, i < 39 ∨ 49 < i → ¬ i = 142 → ¬ i = 143 → ¬ i = 144 → A' i = A i) (hd : deq (A 142) (A' 142)) (hg : ∀ i, ¬ i = 39 → G' i = G i) : GN (h, T, U, S, A, J, G) (alH h, T, U', S', A', J', G') := by
  refine ⟨GR_s hG (fun i hi => ⟨rfl, fun _ => rfl, rfl⟩) frT_id (Nat.le_succ _) (fun i hi => hG.1.2 i ?_) hSS hA hd hg, Nat.le_succ _, ?_, ?_, rfl⟩
  · have hi : hN h + 1 ≤ i := hi
    omega
  · show hN h + 1 ≤ hN h + 16
    omega
  · show hS h + 6 ≤ hS h + 1000
    omega
theorem up2_ne' {i k x y : Nat} (hh : ¬ (i = x ∧ k = y)) : up2 S x y v i k = S i k := if_neg hh
theorem up2_eq' {x y : Nat} : up2 S x y v x y = v := if_pos ⟨rfl, rfl⟩
theorem up2_up2 {x y : Nat} {w : Int32} : up2 (up2 S x y v) x y w = up2 S x y w := by
  funext i k
  unfold up2
  split
  · rfl
  · rfl
theorem GN_t (hG : GR h T S A G) : GN (h, T, U, S, A, J, G) (h, T, U', up2 S 140 0 v, A, J', G) := GN_s hG (fun i k _ h2 => up2_ne' h2) (fun _ _ _ _ _ => rfl) deq_id (fun _ _ => rfl)
theorem GN_tx (hG : GR h T S A G) : GN (h, T, U, S, A, J, G) (alH h, T, U', up2 S 140 0 v, A, J', G) := GN_x hG (fun i k _ h2 => up2_ne' h2) (fun _ _ _ _ _ => rfl) deq_id (fun _ _ => rfl)
end CG
/-- a call that answers an int: class and reference alike -/
def JI (c : HP) (mc mr : Nat) (as : List Value) : Prop := ∃ (v : Int32) (c1 c2 : HP), GN c c2 ∧ (∀ d K, EvM (d + 40) mc (.ref 0 :: as) (mH c) K = K (.inl (some (.int v))) (mH c1)) ∧ (∀ d K, EvM (d + 40) mr (.ref 140 :: as) (mH c1) K = K (.inl (some (.int v))) (mH c2)) ∧ hX c1.1 = hX c.1
/-- a call that may throw -/
def JW (c : HP) (mw mr : Nat) (as : List Value) : Prop := ∃ (k b : Int32) (c1 c2 : HP), GN c c2 ∧ (∀ d K, EvM (d + 40) mw (.ref 0 :: (as ++ [.ref 155])) (mH c) K = K (.inl (some (.int k))) (mH c1)) ∧
  (∀ d K, EvM (d + 40) mr (.ref 140 :: as) (mH c1) K = K (.inl (some (.int b))) (mH c2)) ∧ c2.2.2.2.1 140 0 = k ∧ (k = 0 → c2.2.2.2.2.2.1 155 0 = b.toInt64) ∧ hX c1.1 = hX c.1
section FC
variable {d : Nat} {h : AH} {hh : AH} {T : Nat → Bool} {U S A : Nat → Nat → Int32} {J : Nat → Nat → Int64} {G : Nat → Nat} {K : AO → AH → Prop} {c c1 : HP} {x y v w n u : Int32} {nz ns k : Nat}
theorem hb28 : isLine 28 = true := rfl
theorem hb39 : isLine 39 = true := rfl
theorem s_fl0 : EvM d 89 [.ref 140, .int 0, .int v] (MH h T U (up2 S 140 0 0) A J G) K = K (.inl (some (.int 0))) (MH h T U (up2 S 140 0 0) A J G) := by
  simp only [in89, i89_0, i89_1, i89_4, i89_5, i89_8, i89_11, i89_12, i89_13, i89_16, i89_17, i89_20, i89_23, i89_24, i89_27, i89_28, nl_i, nl_r, nl_0, nl_j, nb0, nb1, nbI, orv_s, konN_v, konN_n, konN_e, true_and, and_true, and_self, if_true, if_false, ite_true, ite_false, isR_ref, true_or, or_true, bI_T, bI_F, bI_Fb, i1z, Bool.false_eq_true, k_140, f_140_1, f_140_8, f_140_9, f_140_10, f_140_11, f_140_15, f_140_0, f_140_2, f_140_3, f_140_4, f_140_5, f_140_6, f_140_7, f_140_12, f_140_13, f_140_14, w_140_0, w_140_2, w_140_3, w_140_4, w_140_5, w_140_6, w_140_7, w_140_12, w_140_13, w_140_14, k_141, l_141, a_141, wa_141, k_142, l_142, a_142, wa_142, k_143, l_143, a_143, wa_143, k_144, l_144, a_144, wa_144, pS_b, pS_up, mh_N, mh_S, mh_X, mh_alH, up2_eq']
theorem s_fl1 (hv : ¬ v = 0) : EvM d 89 [.ref 140, .int 1, .int v] (MH h T U (up2 S 140 0 0) A J G) K = K (.inl (some (.int 1))) (MH h T U (up2 S 140 0 v) A J G) := by
  simp only [in89, i89_0, i89_1, i89_4, i89_5, i89_8, i89_11, i89_12, i89_13, i89_16, i89_17, i89_20, i89_23, i89_24, i89_27, i89_28, nl_i, nl_r, nl_0, nl_j, nb0, nb1, nbI, orv_s, konN_v, konN_n, konN_e, true_and, and_true, and_self, if_true, if_false, ite_true, ite_false, isR_ref, true_or, or_true, bI_T, bI_F, bI_Fb, i1z, Bool.false_eq_true, k_140, f_140_1, f_140_8, f_140_9, f_140_10, f_140_11, f_140_15, f_140_0, f_140_2, f_140_3, f_140_4, f_140_5, f_140_6, f_140_7, f_140_12, f_140_13, f_140_14, w_140_0, w_140_2, w_140_3, w_140_4, w_140_5, w_140_6, w_140_7, w_140_12, w_140_13, w_140_14, k_141, l_141, a_141, wa_141, k_142, l_142, a_142, wa_142, k_143, l_143, a_143, wa_143, k_144, l_144, a_144, wa_144, pS_b, pS_up, mh_N, mh_S, mh_X, mh_alH, up2_eq', show ((1 : Int32) = 0) = False from eq_false (by decide), up2_up2, hv]
theorem s_in0 (hx : v ≤ u ∧ u ≤ w) : EvM d 90 [.int u, .int v, .int w] hh K = K (.inl (some (.int 1))) hh := by rw [s_in, bI_t hx]
theorem s_in1 (hx : ¬ (v ≤ u ∧ u ≤ w)) : EvM d 90 [.int u, .int v, .int w] hh K = K (.inl (some (.int 0))) hh := by rw [s_in, bI_f hx]
theorem i1n0 : ((1 : Int32) = 0) = False := eq_false (by decide)
theorem s_ri0 (hx : 0 ≤ x ∧ x < n) : EvM d 82 [.int x, .int n] hh K = K (.inl none) hh := by
  simp only [in82, i82_0, i82_1, i82_4, i82_5, i82_6, i82_9, i82_12, i82_13, i82_19, nl_i, nl_r, nl_0, nl_j, nb0, nb1, nbI, orv_s, konN_v, konN_n, konN_e, true_and, and_true, and_self, if_true, if_false, ite_true, ite_false, isR_ref, true_or, or_true, bI_T, bI_F, bI_Fb, i1z, Bool.false_eq_true, show (x < 0) = False from eq_false (Int32.not_lt.mpr hx.1), show (x < n) = True from eq_true hx.2]
theorem s_ri1 (hx : ¬ (0 ≤ x ∧ x < n)) : EvM (d + 10) 82 [.int x, .int n] hh K = K (.inr 2) (alH hh) := by
  by_cases h1 : x < 0
  · simp only [in82, i82_0, i82_1, i82_4, i82_5, i82_6, i82_9, i82_12, i82_13, i82_19, nl_i, nl_r, nl_0, nl_j, nb0, nb1, nbI, orv_s, konN_v, konN_n, konN_e, true_and, and_true, and_self, if_true, if_false, ite_true, ite_false, isR_ref, true_or, or_true, bI_T, bI_F, bI_Fb, i1z, Bool.false_eq_true, show (x < 0) = True from eq_true h1]
  · simp only [in82, i82_0, i82_1, i82_4, i82_5, i82_6, i82_9, i82_12, i82_13, i82_19, nl_i, nl_r, nl_0, nl_j, nb0, nb1, nbI, orv_s, konN_v, konN_n, konN_e, true_and, and_true, and_self, if_true, if_false, ite_true, ite_false, isR_ref, true_or, or_true, bI_T, bI_F, bI_Fb, i1z, Bool.false_eq_true, show (x < 0) = False from eq_false h1, show (x < n) = False from eq_false (fun z => hx ⟨Int32.not_lt.mp h1, z⟩)]
theorem s_within : EvM d 83 [.int u, .int v, .int w] hh K = K (.inl (some (.int (bI (v ≤ u ∧ u ≤ w))))) hh := by
  by_cases h1 : v ≤ u
  · by_cases h2 : u ≤ w
    · rw [bI_t ⟨h1, h2⟩]
      simp only [in83, i83_0, i83_1, i83_2, i83_5, i83_6, i83_7, i83_10, i83_11, i83_14, i83_15, nl_i, nl_r, nl_0, nl_j, nb0, nb1, nbI, orv_s, konN_v, konN_n, konN_e, true_and, and_true, and_self, if_true, if_false, ite_true, ite_false, isR_ref, true_or, or_true, bI_T, bI_F, bI_Fb, i1z, Bool.false_eq_true, show (u < v) = False from eq_false (Int32.not_lt.mpr h1), show (w < u) = False from eq_false (Int32.not_lt.mpr h2)]
    · rw [bI_f (fun z => h2 z.2)]
      simp only [in83, i83_0, i83_1, i83_2, i83_5, i83_6, i83_7, i83_10, i83_11, i83_14, i83_15, nl_i, nl_r, nl_0, nl_j, nb0, nb1, nbI, orv_s, konN_v, konN_n, konN_e, true_and, and_true, and_self, if_true, if_false, ite_true, ite_false, isR_ref, true_or, or_true, bI_T, bI_F, bI_Fb, i1z, Bool.false_eq_true, show (u < v) = False from eq_false (Int32.not_lt.mpr h1), show (w < u) = True from eq_true (Int32.not_le.mp h2)]
  · rw [bI_f (fun z => h1 z.1)]
    simp only [in83, i83_0, i83_1, i83_2, i83_5, i83_6, i83_7, i83_10, i83_11, i83_14, i83_15, nl_i, nl_r, nl_0, nl_j, nb0, nb1, nbI, orv_s, konN_v, konN_n, konN_e, true_and, and_true, and_self, if_true, if_false, ite_true, ite_false, isR_ref, true_or, or_true, bI_T, bI_F, bI_Fb, i1z, Bool.false_eq_true, show (u < v) = True from eq_true (Int32.not_le.mp h1)]
theorem s_ra0 (hx : v ≤ u ∧ u ≤ w) : EvM (d + 1) 81 [.int u, .int v, .int w] hh K = K (.inl none) hh := by
  simp only [in81, i81_0, i81_1, i81_2, i81_3, i81_6, i81_9, i81_12, i81_13, i81_19, nl_i, nl_r, nl_0, nl_j, nb0, nb1, nbI, orv_s, konN_v, konN_n, konN_e, true_and, and_true, and_self, if_true, if_false, ite_true, ite_false, isR_ref, true_or, or_true, bI_T, bI_F, bI_Fb, i1z, Bool.false_eq_true, s_within, bI_t hx, i1n0]
theorem s_ra1 (hx : ¬ (v ≤ u ∧ u ≤ w)) : EvM (d + 10) 81 [.int u, .int v, .int w] hh K = K (.inr 0) (alH hh) := by
  simp only [in81, i81_0, i81_1, i81_2, i81_3, i81_6, i81_9, i81_12, i81_13, i81_19, nl_i, nl_r, nl_0, nl_j, nb0, nb1, nbI, orv_s, konN_v, konN_n, konN_e, true_and, and_true, and_self, if_true, if_false, ite_true, ite_false, isR_ref, true_or, or_true, bI_T, bI_F, bI_Fb, i1z, Bool.false_eq_true, s_within, bI_f hx]
end FC
