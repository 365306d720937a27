/-! PREDICTIONS: copies, counts, the end of all sheets -/
def deq (D D' : Nat → Int32) : Prop := ∀ i, i < 1451 → D' i = D i
def cpF (F E : Nat → Int32) : Nat → Int32 := fun i => if i < 1451 then F i else E i
theorem cpF_deq {F E : Nat → Int32} : deq F (cpF F E) := fun i hi => if_pos hi
theorem deq_id {D : Nat → Int32} : deq D D := fun _ _ => rfl
theorem deq_tr {D E F : Nat → Int32} (h1 : deq D E) (h2 : deq E F) : deq D F := fun i hi => (h2 i hi).trans (h1 i hi)
theorem STA_deq {nz n : Nat} {q pg D D' : Nat → Int32} {sa : Nat → Nat → Int32} (hd : deq D D') (h : STA nz q sa n pg D) : STA nz q sa n pg D' := by
  obtain ⟨⟨a1, a2, a3⟩, ⟨b1, b2, b3⟩, c, d, e⟩ := h
  refine ⟨⟨a1, a2, (hd _ (by omega)).trans a3⟩, ⟨(hd _ (by omega)).trans b1, (hd _ (by omega)).trans b2, b3⟩, fun z hz => ?_, fun k hk => ?_, HX_congr (hd _ (by omega)) (hd _ (by omega)) (fun j _ => hd _ (by omega)) e⟩
  · obtain ⟨⟨c1, c2, c3, c4⟩, c5⟩ := c z hz
    exact ⟨⟨(hd _ (by omega)).trans c1, (hd _ (by omega)).trans c2, (hd _ (by omega)).trans c3, (hd _ (by omega)).trans c4⟩, c5⟩
  · have d' := d k hk
    unfold bR at d' ⊢
    rw [hd _ (by omega), hd _ (by omega), hd _ (by omega)]
    exact d'
theorem EQL_deq {nz ns : Nat} {f D D' : Nat → Int32} {a : Nat → Nat → Int32} (hnz : nz ≤ 6) (hns : ns ≤ 20) (hd : deq D D') (h : EQL nz ns f a D) : EQL nz ns f a D' := by
  obtain ⟨⟨a1, a2, a3, a4⟩, b, c, d⟩ := h
  exact ⟨⟨(hd _ (by omega)).trans a1, (hd _ (by omega)).trans a2, (hd _ (by omega)).trans a3, a4.imp id (fun e => (hd _ (by omega)).trans e)⟩, fun y hy => ⟨(hd _ (by omega)).trans (b y hy).1, (hd _ (by omega)).trans (b y hy).2.1, (hd _ (by omega)).trans (b y hy).2.2⟩, fun y hy => ⟨(hd _ (by omega)).trans (c y hy).1, (hd _ (by omega)).trans (c y hy).2.1, (hd _ (by omega)).trans (c y hy).2.2⟩, fun y hy => ⟨(hd _ (by omega)).trans (d y hy).1, (hd _ (by omega)).trans (d y hy).2.1, (hd _ (by omega)).trans (d y hy).2.2.1, (hd _ (by omega)).trans (d y hy).2.2.2⟩⟩
theorem zn_1451 : Int32.toNatClampNeg 1451 = 1451 := by decide
theorem s_cp_loop {d x y : Nat} {h : AH} {T : Nat → Bool} {U S A : Nat → Nat → Int32} {J : Nat → Nat → Int64} {G : Nat → Nat} {K : AO → AH → Prop} (ox : own x = true) (oy : own y = true) (kx : okl x = (10, 1451)) (ky : okl y = (10, 1451)) (hxy : ¬ x = y) : ∀ m k F, k + m = 1451 → Ev d 93 2 [some (.ref x), some (.ref y), some (.int (nI k))] [] (MH h T U S (upf A y F) J G) K = K (.inl none) (MH h T U S (upf A y (fun j => if k ≤ j ∧ j < 1451 then A x j else F j)) J G)
  | 0, k, F, hk => by
    rw [i93_2]
    simp only [i93_3, i93_6, i93_9, i93_10, i93_11, i93_12, i93_13, i93_14, i93_15, i93_18, i93_21, nl_i, nl_r, nl_0, nl_j, nb0, nb1, nbI, orv_s, konN_v, konN_n, konN_e, true_and, and_true, and_self, if_true, if_false, ite_true, ite_false, isR_ref, true_or, or_true, bI_T, bI_F, bI_Fb, i1z, Bool.false_eq_true, nI_le_zn (show k < 2 ^ 31 by omega), zn_1451, show ¬ k < 1451 by omega, not_false_eq_true]
    have e : (fun j => if k ≤ j ∧ j < 1451 then A x j else F j) = F := by
      funext j
      rw [if_neg (by omega)]
    rw [e]
  | m + 1, k, F, hk => by
    have ih := s_cp_loop (d := d) (h := h) (T := T) (U := U) (S := S) (A := A) (J := J) (G := G) (K := K) ox oy kx ky hxy m (k + 1) (upd F k (A x k)) (by omega)
    have ax : hA (MH h T U S (upf A y F) J G) x = A x := (mh_A ox).trans (upf_ne _ _ hxy)
    have ay : hA (MH h T U S (upf A y F) J G) y = F := (mh_A oy).trans (upf_same _ _ _)
    rw [i93_2]
    simp only [i93_3, i93_6, i93_9, i93_10, i93_11, i93_12, i93_13, i93_14, i93_15, i93_18, i93_21, nl_i, nl_r, nl_0, nl_j, nb0, nb1, nbI, orv_s, konN_v, konN_n, konN_e, true_and, and_true, and_self, if_true, if_false, ite_true, ite_false, isR_ref, true_or, or_true, bI_T, bI_F, bI_Fb, i1z, Bool.false_eq_true, nI_le_zn (show k < 2 ^ 31 by omega), zn_1451, show k < 1451 by omega, not_true, mh_k ox, mh_k oy, mh_l ox, mh_l oy, kx, ky, ax, ay, inbT (show k < 1451 by omega) (show 1451 < 2 ^ 31 by omega), zn_nI (show k < 2 ^ 31 by omega), mh_wA oy, upf_upf, nI_1, ih]
    have e : (fun j => if k + 1 ≤ j ∧ j < 1451 then A x j else upd F k (A x k) j) = fun j => if k ≤ j ∧ j < 1451 then A x j else F j := by
      funext j
      by_cases ej : j = k
      · rw [ej, if_neg (by omega), if_pos (by omega), upd_eq]
      · rw [upd_nz ej]
        by_cases h1 : k + 1 ≤ j ∧ j < 1451
        · rw [if_pos h1, if_pos (by omega)]
        · rw [if_neg h1, if_neg (by omega)]
    rw [e]
theorem s_copy {d x y : Nat} {h : AH} {T : Nat → Bool} {U S A : Nat → Nat → Int32} {J : Nat → Nat → Int64} {G : Nat → Nat} {K : AO → AH → Prop} (ox : own x = true) (oy : own y = true) (kx : okl x = (10, 1451)) (ky : okl y = (10, 1451)) (hxy : ¬ x = y) : EvM d 93 [.ref x, .ref y] (MH h T U S A J G) K = K (.inl none) (MH h T U S (upf A y (cpF (A x) (A y))) J G) := by
  have key := s_cp_loop (d := d) (h := h) (T := T) (U := U) (S := S) (A := A) (J := J) (G := G) (K := K) ox oy kx ky hxy 1451 0 (A y) (by omega)
  rw [upf_id, nI_0] at key
  simp only [i93_0, i93_1, in93, nl_i, nl_r, nl_0, nl_j, nb0, nb1, nbI, orv_s, konN_v, konN_n, konN_e, true_and, and_true, and_self, if_true, if_false, ite_true, ite_false, isR_ref, true_or, or_true, bI_T, bI_F, bI_Fb, i1z, Bool.false_eq_true, key]
  have e : (fun j => if 0 ≤ j ∧ j < 1451 then A x j else A y j) = cpF (A x) (A y) := by
    funext j
    unfold cpF
    by_cases h1 : j < 1451
    · rw [if_pos h1, if_pos ⟨Nat.zero_le _, h1⟩]
    · rw [if_neg h1, if_neg (fun z => h1 z.2)]
  rw [e]
/-! counts -/
def cN (st : Nat → Int32) (w : Int32) : Nat → Nat → Nat
  | _, 0 => 0
  | k, m + 1 => (if st k = w then 1 else 0) + cN st w (k + 1) m
theorem cN_le {st : Nat → Int32} {w : Int32} : ∀ m k, cN st w k m ≤ m
  | 0, k => Nat.le_refl _
  | m + 1, k => by
    have := cN_le (st := st) (w := w) m (k + 1)
    rw [cN]
    split <;> omega
theorem cnt_cN {st : Nat → Int32} {w : Int32} : ∀ m k c, itn (fun k (c : Int32) => if st k = w then c + 1 else c) k m (nI c) = nI (c + cN st w k m)
  | 0, k, c => rfl
  | m + 1, k, c => by
    rw [itn, cN]
    by_cases h : st k = w
    · rw [if_pos h, if_pos h, nI_1, cnt_cN m (k + 1) (c + 1), Nat.add_assoc]
    · rw [if_neg h, if_neg h, cnt_cN m (k + 1) c, Nat.zero_add]
theorem cnt_eq {st : Nat → Int32} {w : Int32} {n : Nat} : cnt st w n = nI (cN st w 0 n) := by
  have := cnt_cN (st := st) (w := w) n 0 0
  rw [nI_0, Nat.zero_add] at this
  exact this
theorem cN_congr {st st' : Nat → Int32} {w : Int32} : ∀ m k, (∀ s, k ≤ s → s < k + m → st' s = st s) → cN st' w k m = cN st w k m
  | 0, k, h => rfl
  | m + 1, k, h => by
    rw [cN, cN, h k (Nat.le_refl _) (by omega), cN_congr m (k + 1) (fun s h1 h2 => h s (by omega) (by omega))]
theorem cnt_congr {st st' : Nat → Int32} {w : Int32} {n : Nat} (h : ∀ s, s < n → st' s = st s) : cnt st' w n = cnt st w n := by
  rw [cnt_eq, cnt_eq, cN_congr n 0 (fun s _ h2 => h s (by omega))]
theorem finB_cN {st : Nat → Int32} : ∀ m k, (finB st k m = true) = (cN st 0 k m = 0 ∧ cN st 1 k m = 0 ∧ cN st 2 k m = 0)
  | 0, k => propext ⟨fun _ => ⟨rfl, rfl, rfl⟩, fun _ => rfl⟩
  | m + 1, k => by
    rw [finB, cN, cN, cN]
    by_cases h0 : st k = 0
    · rw [if_pos h0, if_pos h0]
      exact propext ⟨fun z => absurd z Bool.false_ne_true, fun z => absurd z.1 (by omega)⟩
    · rw [if_neg h0, if_neg h0]
      by_cases h1 : st k = 1
      · rw [if_pos h1, if_pos h1]
        exact propext ⟨fun z => absurd z Bool.false_ne_true, fun z => absurd z.2.1 (by omega)⟩
      · rw [if_neg h1, if_neg h1]
        by_cases h2 : st k = 2
        · rw [if_pos h2, if_pos h2]
          exact propext ⟨fun z => absurd z Bool.false_ne_true, fun z => absurd z.2.2 (by omega)⟩
        · rw [if_neg h2, if_neg h2, finB_cN m (k + 1), Nat.zero_add, Nat.zero_add, Nat.zero_add]
theorem finB_all {st : Nat → Int32} : ∀ m k, finB st k m = true → ∀ s, k ≤ s → s < k + m → ¬ st s = 0 ∧ ¬ st s = 1 ∧ ¬ st s = 2
  | 0, k, _, s, h1, h2 => absurd h2 (by omega)
  | m + 1, k, h, s, h1, h2 => by
    rw [finB] at h
    by_cases h0 : st k = 0
    · rw [if_pos h0] at h; exact absurd h Bool.false_ne_true
    · rw [if_neg h0] at h
      by_cases g1 : st k = 1
      · rw [if_pos g1] at h; exact absurd h Bool.false_ne_true
      · rw [if_neg g1] at h
        by_cases g2 : st k = 2
        · rw [if_pos g2] at h; exact absurd h Bool.false_ne_true
        · rw [if_neg g2] at h
          by_cases e : s = k
          · rw [e]; exact ⟨h0, g1, g2⟩
          · exact finB_all m (k + 1) h s (by omega) (by omega)
section CN
variable {c : HP} {J : Nat → Nat → Int64} {D : Nat → Int32} {d ns : Nat} {w : Int32} {K : AO → AH → Prop}
theorem s_countOf (h1 : D 1 = nI ns) (hns : ns ≤ 20) : EvM (d + 2) 129 [.ref 140, .int w] (dH c J D) K = K (.inl (some (.int (cnt (fun s => D (51 + 3 * s + 2)) w ns)))) (dH c J D) := by
  simp only [i129_0, i129_1, i129_2, i129_3, in129, nl_i, nl_r, nl_0, nl_j, nb0, nb1, nbI, orv_s, konN_v, konN_n, konN_e, true_and, and_true, and_self, if_true, if_false, ite_true, ite_false, isR_ref, true_or, or_true, bI_T, bI_F, bI_Fb, i1z, Bool.false_eq_true]
  rw [← nI_0]
  refine loopUp (N := ns) (fun k c => if D (51 + 3 * k + 2) = w then c + 1 else c) (fun k c' => Ev (d + 2) 129 4 [some (.ref 140), some (.int w), some (.int c'), some (.int (nI k))] [] (dH c J D) K) (fun c' => K (.inl (some (.int c'))) (dH c J D)) (fun k c' hk => ?_) (fun c' => ?_) ns 0 0 (by omega)
  · rw [i129_4]
    simp only [i129_5, i129_6, i129_9, i129_10, i129_11, i129_14, i129_15, i129_16, i129_17, i129_20, i129_21, i129_24, i129_25, i129_28, i129_29, i129_30, i129_31, i129_34, i129_37, i129_38, nl_i, nl_r, nl_0, nl_j, nb0, nb1, nbI, orv_s, konN_v, konN_n, konN_e, true_and, and_true, and_self, if_true, if_false, ite_true, ite_false, isR_ref, true_or, or_true, bI_T, bI_F, bI_Fb, i1z, Bool.false_eq_true, d_k, d_f8, d_k2, d_l2, d_a2, d_wa2, s_zoneAt, s_sheetAt, s_kindAt, nI_1, nI_p2, nI_p3, nI_p4, nI_p5, nI_p6, ib_0, ib_1, ib_2, ib_3, ib_4, ib_5, ib_6, ib_7, ib_8, iz_0, iz_1, iz_2, iz_3, iz_4, iz_5, iz_6, iz_7, iz_8, ze_0, ze_1, ze_2, ze_3, ze_4, ze_5, ze_6, ze_7, ze_8, h1, nI_le_zn (show k < 2 ^ 31 by omega), zn_nI (show ns < 2 ^ 31 by omega), hk, not_true, s_stateOf (show k < 20 by omega)]
    by_cases hw : D (51 + 3 * k + 2) = w
    · simp only [hw, if_true, i129_24, i129_25, i129_28, i129_29, i129_30, i129_31, i129_34, nl_i, nl_r, nl_0, nl_j, nb0, nb1, nbI, orv_s, konN_v, konN_n, konN_e, true_and, and_true, and_self, if_true, if_false, ite_true, ite_false, isR_ref, true_or, or_true, bI_T, bI_F, bI_Fb, i1z, Bool.false_eq_true, nI_1]
    · simp only [hw, if_false, i129_28, i129_29, i129_30, i129_31, i129_34, nl_i, nl_r, nl_0, nl_j, nb0, nb1, nbI, orv_s, konN_v, konN_n, konN_e, true_and, and_true, and_self, if_true, if_false, ite_true, ite_false, isR_ref, true_or, or_true, bI_T, bI_F, bI_Fb, i1z, Bool.false_eq_true, Int32.add_zero, nI_1]
  · rw [i129_4]
    simp only [i129_5, i129_6, i129_9, i129_10, i129_11, i129_14, i129_15, i129_16, i129_17, i129_20, i129_21, i129_24, i129_25, i129_28, i129_29, i129_30, i129_31, i129_34, i129_37, i129_38, nl_i, nl_r, nl_0, nl_j, nb0, nb1, nbI, orv_s, konN_v, konN_n, konN_e, true_and, and_true, and_self, if_true, if_false, ite_true, ite_false, isR_ref, true_or, or_true, bI_T, bI_F, bI_Fb, i1z, Bool.false_eq_true, d_k, d_f8, d_k2, d_l2, d_a2, d_wa2, s_zoneAt, s_sheetAt, s_kindAt, nI_1, nI_p2, nI_p3, nI_p4, nI_p5, nI_p6, ib_0, ib_1, ib_2, ib_3, ib_4, ib_5, ib_6, ib_7, ib_8, iz_0, iz_1, iz_2, iz_3, iz_4, iz_5, iz_6, iz_7, iz_8, ze_0, ze_1, ze_2, ze_3, ze_4, ze_5, ze_6, ze_7, ze_8, h1, nI_le_zn (show ns < 2 ^ 31 by omega), zn_nI (show ns < 2 ^ 31 by omega), Nat.lt_irrefl, not_false_eq_true]
theorem s_mFin {nz : Nat} {f : Nat → Int32} {a : Nat → Nat → Int32} (hE : EQL nz ns f a D) (hns : ns ≤ 20) : EvM (d + 3) 130 [.ref 140] (dH c J D) K = K (.inl (some (.int (bI (finB (a 6) 0 ns = true))))) (dH c J D) := by
  have h1 := hE.1.1
  have hs : ∀ s, s < ns → D (51 + 3 * s + 2) = a 6 s := fun s h => (hE.2.2.1 s h).2.2
  have e : ∀ w, cnt (fun s => D (51 + 3 * s + 2)) w ns = nI (cN (a 6) w 0 ns) := fun w => (cnt_congr (st := a 6) hs).trans cnt_eq
  have l0 := cN_le (st := a 6) (w := 0) ns 0
  have l1 := cN_le (st := a 6) (w := 1) ns 0
  have l2 := cN_le (st := a 6) (w := 2) ns 0
  have hb : (nI (cN (a 6) 0 0 ns + cN (a 6) 1 0 ns + cN (a 6) 2 0 ns) = 0) = (finB (a 6) 0 ns = true) := by
    rw [finB_cN]
    refine propext ⟨fun z => ?_, fun z => ?_⟩
    · have := (nI_eq (b := 0) (by omega) (by omega)).mp (z.trans nI_0.symm)
      omega
    · rw [z.1, z.2.1, z.2.2]
      exact nI_0
  simp only [in130, i130_0, i130_1, i130_2, i130_5, i130_6, i130_7, i130_10, i130_11, i130_12, i130_13, i130_16, i130_17, i130_20, i130_21, i130_24, i130_25, nl_i, nl_r, nl_0, nl_j, nb0, nb1, nbI, orv_s, konN_v, konN_n, konN_e, true_and, and_true, and_self, if_true, if_false, ite_true, ite_false, isR_ref, true_or, or_true, bI_T, bI_F, bI_Fb, i1z, Bool.false_eq_true, d_k, d_f8, d_k2, d_l2, d_a2, d_wa2, s_zoneAt, s_sheetAt, s_kindAt, nI_1, nI_p2, nI_p3, nI_p4, nI_p5, nI_p6, ib_0, ib_1, ib_2, ib_3, ib_4, ib_5, ib_6, ib_7, ib_8, iz_0, iz_1, iz_2, iz_3, iz_4, iz_5, iz_6, iz_7, iz_8, ze_0, ze_1, ze_2, ze_3, ze_4, ze_5, ze_6, ze_7, ze_8, s_countOf h1 hns, e, nI_add, hb]
  by_cases hf : finB (a 6) 0 ns = true
  · rw [if_pos hf, bI_t hf]
  · rw [if_neg hf, bI_f hf]
end CN
/-! a line whose sheets have all ended stays so -/
section STAY
variable {nz ns n : Nat} {q pg f stk : Nat → Int32} {a sa : Nat → Nat → Int32}
theorem hzL_row {i : Nat} (hi : ¬ i = 2) : ∀ m k (a : Nat → Nat → Int32), itn (fun k a => hzStep sa a k) k m a i = a i
  | 0, k, a => rfl
  | m + 1, k, a => by
    rw [itn, hzL_row hi m (k + 1)]
    unfold hzStep
    split
    · exact upf_ne _ _ hi
    · rfl
theorem hsF_none : ∀ m k (v : (Nat → Int32) × (Nat → Nat → Int32)), (∀ z, k ≤ z → z < k + m → v.2 3 z = -1) → itn (hsF sa pg n f) k m v = v
  | 0, k, v, h => rfl
  | m + 1, k, v, h => by
    have e : hsF sa pg n f k v = v := by
      unfold hsF
      rw [if_neg]
      intro z
      rw [h k (Nat.le_refl _) (by omega)] at z
      exact absurd z.1 (by decide)
    rw [itn, e]
    exact hsF_none m (k + 1) v (fun z h1 h2 => h z (by omega) (by omega))
theorem moveF_none {v : LSt} : ∀ j, (∀ z, z < j → v.2 3 z = -1) → itd (moveF sa q) j v = v
  | 0, h => rfl
  | j + 1, h => by
    have e : moveF sa q j v = v := by
      unfold moveF
      dsimp only
      rw [if_neg]
      intro z
      rw [h j (by omega)] at z
      exact absurd z.1 (by decide)
    rw [itd, e]
    exact moveF_none j (fun z h1 => h z (by omega))
theorem fillF_none {a : Nat → Nat → Int32} : ∀ m k, (∀ s, k ≤ s → s < k + m → ¬ a 6 s = 0) → fillF a k m = a
  | 0, k, h => rfl
  | m + 1, k, h => by
    rw [fillF, if_neg (h k (Nat.le_refl _) (by omega))]
    exact fillF_none m (k + 1) (fun s h1 h2 => h s (by omega) (by omega))
theorem fin_stay (hI : INV nz ns f a) (hq : q 0 = nI nz) (hnz : nz ≤ 6) (hf : finB (a 6) 0 ns = true) : (tickL sa q pg n (stk, f, a)).2.2 6 = a 6 ∧ (tickL sa q pg n (stk, f, a)).2.1 2 = f 2 := by
  obtain ⟨⟨i1, i2, i3⟩, i4, i5, i7, i8, i9⟩ := hI
  have zq : zn (q 0) = nz := by rw [hq]; exact zn_nI (by omega)
  have zf : zn (f 2) = ns := by rw [i1]; exact zn_nI (by omega)
  have hall := finB_all ns 0 hf
  have hold : ∀ z, z < nz → a 3 z = -1 := fun z hz => by
    rcases i5.1 z hz with h | ⟨s, hs, h1, h2⟩
    · exact h
    · exact absurd h2 (hall s (Nat.zero_le _) (by omega)).2.1
  have q3 : f 3 = -1 := by
    rcases i4 with h | ⟨s, hs, h1, h2, h3⟩
    · exact h.1
    · exact absurd h3 (hall s (Nat.zero_le _) (by omega)).2.2
  have r3 : hzL sa nz a 3 = a 3 := hzL_row (by decide) nz 0 a
  have r6 : hzL sa nz a 6 = a 6 := hzL_row (by decide) nz 0 a
  have e1 : itn (hsF sa pg n f) 0 nz (stk, hzL sa nz a) = (stk, hzL sa nz a) := hsF_none nz 0 _ (fun z _ hz => by
    show hzL sa nz a 3 z = -1
    rw [r3]; exact hold z (by omega))
  have e2 : quL sa q (f, hzL sa nz a) = (f, hzL sa nz a) := qu_no (fun z => by rw [q3] at z; exact absurd z.1 (by decide))
  have e3 : itd (moveF sa q) nz (f, hzL sa nz a) = (f, hzL sa nz a) := moveF_none nz (fun z hz => by
    show hzL sa nz a 3 z = -1
    rw [r3]; exact hold z hz)
  have e4 : fillF (hzL sa nz a) 0 ns = hzL sa nz a := fillF_none ns 0 (fun s h1 h2 => by rw [r6]; exact (hall s h1 h2).1)
  unfold tickL fillL
  dsimp only
  rw [zq, e1]
  dsimp only
  rw [e2, e3]
  dsimp only
  rw [zf, e4]
  refine ⟨?_, rfl⟩
  split
  · exact r6
  · exact r6
end STAY
/-! the loops of the predictions -/
section FL
variable {nz ns n : Nat} {q pg : Nat → Int32} {sa : Nat → Nat → Int32} {c : HP}
theorem tick_all {f D stk : Nat → Int32} {a : Nat → Nat → Int32} {J : Nat → Nat → Int64} (hnn : ¬ finB (a 6) 0 ns = true) (hI : INV nz ns f a) (hE : EQL nz ns f a D) (hS : STA nz q sa n pg D) :
    ∃ J' D', J' 155 = J 155 ∧ (∀ d K, EvM (d + 4) 128 [.ref 140] (dH c J D) K = K (.inl none) (dH c J' D')) ∧ INV nz ns (tickL sa q pg n (stk, f, a)).2.1 (tickL sa q pg n (stk, f, a)).2.2 ∧ EQL nz ns (tickL sa q pg n (stk, f, a)).2.1 (tickL sa q pg n (stk, f, a)).2.2 D' ∧ STA nz q sa n pg D' := by
  refine tick_step (Nat.pos_of_ne_zero (fun h => ?_)) hI hE hS
  have := hI.1.2.2 h
  subst this
  exact hnn rfl
theorem ft_loop {N : Nat} (hN : N ≤ 300)  : ∀ m k (stk f D : Nat → Int32) (a : Nat → Nat → Int32) (J : Nat → Nat → Int64), k + m = N → INV nz ns f a → EQL nz ns f a D → STA nz q sa n pg D →
    ∃ J' D' nn, J' 155 = J 155 ∧ nn ≤ N ∧ (∀ d K l3, Ev (d + 5) 152 44 [some (.ref 140), some (.int (nI N)), some (.int (nI k)), l3] [] (dH c J D) K = Ev (d + 5) 152 66 [some (.ref 140), some (.int (nI N)), some (.int (nI nn)), l3] [] (dH c J' D') K) ∧
      (ttfF sa q pg n k m (stk, f, a)).1 = (if finB ((ttfF sa q pg n k m (stk, f, a)).2.2.2 6) 0 ns = true then nI nn else -1) ∧ INV nz ns (ttfF sa q pg n k m (stk, f, a)).2.2.1 (ttfF sa q pg n k m (stk, f, a)).2.2.2 ∧ EQL nz ns (ttfF sa q pg n k m (stk, f, a)).2.2.1 (ttfF sa q pg n k m (stk, f, a)).2.2.2 D' ∧ STA nz q sa n pg D'
  | 0, k, stk, f, D, a, J, hk, hI, hE, hS => by
    have i2 := hI.1.2.1
    have zf : zn (f 2) = ns := by rw [hI.1.1]; exact zn_nI (by omega)
    have hkN : k = N := by omega
    rw [hkN]
    refine ⟨J, D, N, rfl, Nat.le_refl _, fun d K l3 => ?_, ?_, hI, hE, hS⟩
    · rw [i152_44]
      simp only [i152_45, i152_46, i152_49, i152_50, i152_53, i152_56, i152_57, i152_60, i152_63, nl_i, nl_r, nl_0, nl_j, nb0, nb1, nbI, orv_s, konN_v, konN_n, konN_e, true_and, and_true, and_self, if_true, if_false, ite_true, ite_false, isR_ref, true_or, or_true, bI_T, bI_F, bI_Fb, i1z, Bool.false_eq_true, nI_le_zn (show N < 2 ^ 31 by omega), zn_nI (show N < 2 ^ 31 by omega), Nat.lt_irrefl, not_false_eq_true]
    · show (if finB (a 6) 0 (zn (f 2)) = true then nI N else -1) = _
      rw [zf]
      rfl
  | m + 1, k, stk, f, D, a, J, hk, hI, hE, hS => by
    have i2 := hI.1.2.1
    have zf : zn (f 2) = ns := by rw [hI.1.1]; exact zn_nI (by omega)
    by_cases hf : finB (a 6) 0 ns = true
    · have e : ttfF sa q pg n k (m + 1) (stk, f, a) = (nI k, stk, f, a) := if_pos (by show finB (a 6) 0 (zn (f 2)) = true; rw [zf]; exact hf)
      rw [e]
      refine ⟨J, D, k, rfl, by omega, fun d K l3 => ?_, (if_pos hf).symm, hI, hE, hS⟩
      rw [i152_44]
      simp only [i152_45, i152_46, i152_49, i152_50, i152_53, i152_56, i152_57, i152_60, i152_63, nl_i, nl_r, nl_0, nl_j, nb0, nb1, nbI, orv_s, konN_v, konN_n, konN_e, true_and, and_true, and_self, if_true, if_false, ite_true, ite_false, isR_ref, true_or, or_true, bI_T, bI_F, bI_Fb, i1z, Bool.false_eq_true, d_k, d_f8, d_k2, d_l2, d_a2, d_wa2, s_zoneAt, s_sheetAt, s_kindAt, nI_1, nI_p2, nI_p3, nI_p4, nI_p5, nI_p6, ib_0, ib_1, ib_2, ib_3, ib_4, ib_5, ib_6, ib_7, ib_8, iz_0, iz_1, iz_2, iz_3, iz_4, iz_5, iz_6, iz_7, iz_8, ze_0, ze_1, ze_2, ze_3, ze_4, ze_5, ze_6, ze_7, ze_8, nI_le_zn (show k < 2 ^ 31 by omega), zn_nI (show N < 2 ^ 31 by omega), show k < N by omega, not_true, s_mFin hE i2, hf]
    · have e : ttfF sa q pg n k (m + 1) (stk, f, a) = ttfF sa q pg n (k + 1) m (tickL sa q pg n (stk, f, a)) := if_neg (by show ¬ finB (a 6) 0 (zn (f 2)) = true; rw [zf]; exact hf)
      rw [e]
      have hff : finB (a 6) 0 ns = false := Bool.eq_false_iff.mpr hf
      obtain ⟨J1, D1, g1, r1, x1, x2, x3⟩ := tick_all (c := c) (J := J) (stk := stk) hf hI hE hS
      obtain ⟨J2, D2, nn, g2, r2, r3, x⟩ := ft_loop hN  m (k + 1) (tickL sa q pg n (stk, f, a)).1 (tickL sa q pg n (stk, f, a)).2.1 D1 (tickL sa q pg n (stk, f, a)).2.2 J1 (by omega) x1 x2 x3
      refine ⟨J2, D2, nn, g2.trans g1, r2, fun d K l3 => ?_, x⟩
      rw [← r3, i152_44]
      simp only [i152_45, i152_46, i152_49, i152_50, i152_53, i152_56, i152_57, i152_60, i152_63, nl_i, nl_r, nl_0, nl_j, nb0, nb1, nbI, orv_s, konN_v, konN_n, konN_e, true_and, and_true, and_self, if_true, if_false, ite_true, ite_false, isR_ref, true_or, or_true, bI_T, bI_F, bI_Fb, i1z, Bool.false_eq_true, d_k, d_f8, d_k2, d_l2, d_a2, d_wa2, s_zoneAt, s_sheetAt, s_kindAt, nI_1, nI_p2, nI_p3, nI_p4, nI_p5, nI_p6, ib_0, ib_1, ib_2, ib_3, ib_4, ib_5, ib_6, ib_7, ib_8, iz_0, iz_1, iz_2, iz_3, iz_4, iz_5, iz_6, iz_7, iz_8, ze_0, ze_1, ze_2, ze_3, ze_4, ze_5, ze_6, ze_7, ze_8, nI_le_zn (show k < 2 ^ 31 by omega), zn_nI (show N < 2 ^ 31 by omega), show k < N by omega, not_true, s_mFin hE i2, hff, r1]
theorem gd_loop {N : Nat} (hN : N ≤ 300) (h300 : N = 300) {th : Int32} : ∀ m k (stk f D : Nat → Int32) (a : Nat → Nat → Int32) (J : Nat → Nat → Int64), k + m = N → INV nz ns f a → EQL nz ns f a D → STA nz q sa n pg D →
    ∃ J' D' nn, J' 155 = J 155 ∧ nn ≤ N ∧ (∀ d K l3, Ev (d + 5) 151 101 [some (.ref 140), some (.int th), some (.int (nI k)), l3] [] (dH c J D) K = Ev (d + 5) 151 125 [some (.ref 140), some (.int th), some (.int (nI nn)), l3] [] (dH c J' D') K) ∧
      (ttfF sa q pg n k m (stk, f, a)).1 = (if finB ((ttfF sa q pg n k m (stk, f, a)).2.2.2 6) 0 ns = true then nI nn else -1) ∧ INV nz ns (ttfF sa q pg n k m (stk, f, a)).2.2.1 (ttfF sa q pg n k m (stk, f, a)).2.2.2 ∧ EQL nz ns (ttfF sa q pg n k m (stk, f, a)).2.2.1 (ttfF sa q pg n k m (stk, f, a)).2.2.2 D' ∧ STA nz q sa n pg D'
  | 0, k, stk, f, D, a, J, hk, hI, hE, hS => by
    have i2 := hI.1.2.1
    have zf : zn (f 2) = ns := by rw [hI.1.1]; exact zn_nI (by omega)
    have hkN : k = N := by omega
    rw [hkN]
    refine ⟨J, D, N, rfl, Nat.le_refl _, fun d K l3 => ?_, ?_, hI, hE, hS⟩
    · rw [i151_101]
      simp only [i151_102, i151_105, i151_108, i151_109, i151_112, i151_115, i151_116, i151_119, i151_122, nl_i, nl_r, nl_0, nl_j, nb0, nb1, nbI, orv_s, konN_v, konN_n, konN_e, true_and, and_true, and_self, if_true, if_false, ite_true, ite_false, isR_ref, true_or, or_true, bI_T, bI_F, bI_Fb, i1z, Bool.false_eq_true, show (300 : Int32) = nI N from by rw [h300]; rfl, nI_le_zn (show N < 2 ^ 31 by omega), zn_nI (show N < 2 ^ 31 by omega), Nat.lt_irrefl, not_false_eq_true]
    · show (if finB (a 6) 0 (zn (f 2)) = true then nI N else -1) = _
      rw [zf]
      rfl
  | m + 1, k, stk, f, D, a, J, hk, hI, hE, hS => by
    have i2 := hI.1.2.1
    have zf : zn (f 2) = ns := by rw [hI.1.1]; exact zn_nI (by omega)
    by_cases hf : finB (a 6) 0 ns = true
    · have e : ttfF sa q pg n k (m + 1) (stk, f, a) = (nI k, stk, f, a) := if_pos (by show finB (a 6) 0 (zn (f 2)) = true; rw [zf]; exact hf)
      rw [e]
      refine ⟨J, D, k, rfl, by omega, fun d K l3 => ?_, (if_pos hf).symm, hI, hE, hS⟩
      rw [i151_101]
      simp only [i151_102, i151_105, i151_108, i151_109, i151_112, i151_115, i151_116, i151_119, i151_122, nl_i, nl_r, nl_0, nl_j, nb0, nb1, nbI, orv_s, konN_v, konN_n, konN_e, true_and, and_true, and_self, if_true, if_false, ite_true, ite_false, isR_ref, true_or, or_true, bI_T, bI_F, bI_Fb, i1z, Bool.false_eq_true, show (300 : Int32) = nI N from by rw [h300]; rfl, d_k, d_f8, d_k2, d_l2, d_a2, d_wa2, s_zoneAt, s_sheetAt, s_kindAt, nI_1, nI_p2, nI_p3, nI_p4, nI_p5, nI_p6, ib_0, ib_1, ib_2, ib_3, ib_4, ib_5, ib_6, ib_7, ib_8, iz_0, iz_1, iz_2, iz_3, iz_4, iz_5, iz_6, iz_7, iz_8, ze_0, ze_1, ze_2, ze_3, ze_4, ze_5, ze_6, ze_7, ze_8, nI_le_zn (show k < 2 ^ 31 by omega), zn_nI (show N < 2 ^ 31 by omega), show k < N by omega, not_true, s_mFin hE i2, hf]
    · have e : ttfF sa q pg n k (m + 1) (stk, f, a) = ttfF sa q pg n (k + 1) m (tickL sa q pg n (stk, f, a)) := if_neg (by show ¬ finB (a 6) 0 (zn (f 2)) = true; rw [zf]; exact hf)
      rw [e]
      have hff : finB (a 6) 0 ns = false := Bool.eq_false_iff.mpr hf
      obtain ⟨J1, D1, g1, r1, x1, x2, x3⟩ := tick_all (c := c) (J := J) (stk := stk) hf hI hE hS
      obtain ⟨J2, D2, nn, g2, r2, r3, x⟩ := gd_loop hN h300 m (k + 1) (tickL sa q pg n (stk, f, a)).1 (tickL sa q pg n (stk, f, a)).2.1 D1 (tickL sa q pg n (stk, f, a)).2.2 J1 (by omega) x1 x2 x3
      refine ⟨J2, D2, nn, g2.trans g1, r2, fun d K l3 => ?_, x⟩
      rw [← r3, i151_101]
      simp only [i151_102, i151_105, i151_108, i151_109, i151_112, i151_115, i151_116, i151_119, i151_122, nl_i, nl_r, nl_0, nl_j, nb0, nb1, nbI, orv_s, konN_v, konN_n, konN_e, true_and, and_true, and_self, if_true, if_false, ite_true, ite_false, isR_ref, true_or, or_true, bI_T, bI_F, bI_Fb, i1z, Bool.false_eq_true, show (300 : Int32) = nI N from by rw [h300]; rfl, d_k, d_f8, d_k2, d_l2, d_a2, d_wa2, s_zoneAt, s_sheetAt, s_kindAt, nI_1, nI_p2, nI_p3, nI_p4, nI_p5, nI_p6, ib_0, ib_1, ib_2, ib_3, ib_4, ib_5, ib_6, ib_7, ib_8, iz_0, iz_1, iz_2, iz_3, iz_4, iz_5, iz_6, iz_7, iz_8, ze_0, ze_1, ze_2, ze_3, ze_4, ze_5, ze_6, ze_7, ze_8, nI_le_zn (show k < 2 ^ 31 by omega), zn_nI (show N < 2 ^ 31 by omega), show k < N by omega, not_true, s_mFin hE i2, hff, r1]
end FL
