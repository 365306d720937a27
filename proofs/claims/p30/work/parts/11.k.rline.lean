/-! RANDOM LINE: numbers, one more row, a random zone -/
def sdN (sd : Int32) : Int32 := 1103515245 * sd + 12345
def rv (sd : Int32) : Nat := ((sdN sd).toUInt32 >>> ((16 : Int32).toUInt32 &&& Int32.toUInt32 31)).toInt32.toInt.toNat
theorem rv_lt (sd : Int32) : rv sd < 65536 ∧ ((sdN sd).toUInt32 >>> ((16 : Int32).toUInt32 &&& Int32.toUInt32 31)).toInt32 = nI (rv sd) := by
  obtain ⟨v, hv, ev⟩ := sh16 (sdN sd)
  have e : rv sd = v := by
    unfold rv
    rw [ev, nI_toInt (by omega)]
    rfl
  rw [e]
  exact ⟨hv, ev⟩
section BEL
variable {d r m n z x y l : Nat} {h g : AH} {K Q : AO → AH → Prop} {sd : Int32} {c : Nat → Nat} {l0 l1 l6 l7 l8 : Option Value}
theorem s_bel (x1 : hk h r = 9) (x3 : hF h r 0 = .int sd) (hm : 1 ≤ m) (hm2 : m < 2 ^ 31) : EvM d 102 [.ref r, .int (nI m)] h K = K (.inl (some (.int (nI (rv sd % m))))) (wF h r 0 (.int (sdN sd))) := by
  have nm : (nI m = 0) = False := eq_false (fun y => by have := nI_inj hm2 (by omega) (y.trans nI_0.symm); omega)
  obtain ⟨hv, ev⟩ := rv_lt sd
  have ev' : ((1103515245 * sd + 12345).toUInt32 >>> ((16 : Int32).toUInt32 &&& Int32.toUInt32 31)).toInt32 = nI (rv sd) := ev
  simp only [in102, i102_0, i102_1, i102_3, i102_4, i102_7, i102_8, i102_11, i102_12, i102_15, i102_16, i102_19, i102_21, i102_22, i102_23, i102_24, nl_i, nl_r, nl_0, nl_j, nb0, nb1, nbI, orv_s, konN_v, konN_n, konN_e, true_and, and_true, and_self, if_true, if_false, ite_true, ite_false, isR_ref, true_or, or_true, isR_null, rg10, rg11, rg12, rg13, rg14, rg15, rg16, rh13, rh14, rh15, rh16, bI_T, bI_F, bI_Fb, i1z, Bool.false_eq_true, x1, x3, k_wF, wF_eq, ev', nm, not_false_eq_true, rem_nI hv hm hm2]
  rfl
theorem nI_mulN (a b : Nat) : nI a * nI b = nI (a * b) := by
  refine Int32.toBitVec_inj.mp ?_
  show BitVec.ofNat 32 a * BitVec.ofNat 32 b = BitVec.ofNat 32 (a * b)
  exact (BitVec.ofNat_mul a b).symm
theorem lt_nI {a b : Nat} (ha : a < 65536) (hb : b < 65536) : (nI a < nI b) = (a < b) := by
  rw [i32_lt, nI_toInt (by omega), nI_toInt (by omega)]
  exact propext ⟨fun y => by omega, fun y => by omega⟩
theorem mnN {a b : Nat} (ha : a < 65536) (hb : b < 65536) : (if nI a < nI b then nI a else nI b) = nI (min a b) := by
  simp only [lt_nI ha hb]
  by_cases h : a < b
  · rw [if_pos h, Nat.min_eq_left (by omega)]
  · rw [if_neg h, Nat.min_eq_right (by omega)]
theorem mxN {a b : Nat} (ha : a < 65536) (hb : b < 65536) : (if nI a < nI b then nI b else nI a) = nI (max a b) := by
  simp only [lt_nI ha hb]
  by_cases h : a < b
  · rw [if_pos h, Nat.max_eq_right (by omega)]
  · rw [if_neg h, Nat.max_eq_left (by omega)]
theorem v0N {w : Nat} (h : w < 1000) : (¬ (nI w < 0 ∨ 60000000 < w)) = True := eq_true (by
  intro z
  rcases z with z | z
  · have e : (0 : Int32) = nI 0 := rfl
    rw [e, lt_nI (by omega) (by omega)] at z
    omega
  · omega)
/-- one more row -/
theorem s_with (hm : m ≤ 100) (hx : hk g x = 14 ∧ hl g x = m) (hxN : x < hN g) (hc : ∀ j, j < m → hR g x j = some (c j) ∧ hk g (c j) = 10 ∧ c j < hN g) (hy : hk g y = 10 ∧ y < hN g) : ∃ g', (Sm noW g g' ∧ hN g' = hN g + 1 ∧ hS g' = hS g + (m + 1)) ∧ ((hk g' (hN g) = 14 ∧ hl g' (hN g) = m + 1) ∧ ∀ j, j < m + 1 → hR g' (hN g) j = some (if j = m then y else c j)) ∧ (∀ i k, hF g' i k = hF g i k) ∧ ∀ d K, EvM d 138 [.ref x, .ref y] g K = K (.inl (some (.ref (hN g)))) g' := by
  have W1 : ∀ i : Nat, i = hN g → ¬ i < hN g := fun i e => by omega
  have st : ∀ k g1, k ≤ m → (Sm (fun i => i = hN g) (alA g 14 (m + 1)) g1 ∧ hN g1 = hN g + 1 ∧ hS g1 = hS g + (m + 1) ∧ ∀ i k, hF g1 i k = hF g i k) → (∀ j, j < k → hR g1 (hN g) j = some (c j)) → ∃ g', (Sm (fun i => i = hN g) (alA g 14 (m + 1)) g' ∧ hN g' = hN g + 1 ∧ hS g' = hS g + (m + 1) ∧ ∀ i k, hF g' i k = hF g i k) ∧ (∀ j, j < m → hR g' (hN g) j = some (c j)) ∧ ∀ d K, Ev d 138 10 [some (.ref x), some (.ref y), some (.ref (hN g)), some (.int (nI k))] [] g1 K = Ev d 138 28 [some (.ref x), some (.ref y), some (.ref (hN g)), some (.int (nI m))] [] g' K := by
    intro k g1 hk1 h1 h2
    obtain ⟨j, hj⟩ : ∃ j, j = m - k := ⟨_, rfl⟩
    induction j generalizing k g1 with
    | zero =>
      have e : k = m := by omega
      refine ⟨g1, h1, by rw [← e]; exact h2, fun d K => ?_⟩
      have kx : hk g1 x = 14 ∧ hl g1 x = m := by
        have a1 := h1.1.k (i := x) (by show x < hN g + 1; omega)
        have a2 := h1.1.l (i := x) (by show x < hN g + 1; omega)
        have b1 := (Sm.alA (W := noW) (g := g) (kd := 14) (n := m + 1)).k hxN
        have b2 := (Sm.alA (W := noW) (g := g) (kd := 14) (n := m + 1)).l hxN
        exact ⟨a1.trans (b1.trans hx.1), a2.trans (b2.trans hx.2)⟩
      have cc : (nI m ≤ nI m) = True := eq_true (Int32.le_refl _)
      rw [e, i138_10]
      simp only [i138_11, i138_12, i138_13, i138_16, i138_17, i138_18, i138_19, i138_20, i138_21, i138_22, i138_25, nl_i, nl_r, nl_0, nl_j, nb0, nb1, nbI, orv_s, konN_v, konN_n, konN_e, true_and, and_true, and_self, if_true, if_false, ite_true, ite_false, isR_ref, true_or, or_true, isR_null, rg10, rg11, rg12, rg13, rg14, rg15, rg16, rh13, rh14, rh15, rh16, bI_T, bI_F, bI_Fb, i1z, Bool.false_eq_true, kx.1, kx.2, show (10 ≤ 14 ∧ 14 ≤ 16) = True from eq_true (by decide), cc]
    | succ j ih =>
      have km : k < m := by omega
      obtain ⟨c1, c2, c3⟩ := hc k km
      have fr : ∀ i, i < hN g → hk g1 i = hk g i ∧ hl g1 i = hl g i ∧ hR g1 i = hR g i := fun i hi => by
        have a1 := h1.1.k (i := i) (by show i < hN g + 1; omega)
        have a2 := h1.1.l (i := i) (by show i < hN g + 1; omega)
        have a3 := h1.1.R (i := i) (by show i < hN g + 1; omega) (by omega)
        have bb := Sm.alA (W := noW) (g := g) (kd := 14) (n := m + 1)
        exact ⟨a1.trans (bb.k hi), a2.trans (bb.l hi), a3.trans (bb.R hi (fun z => z))⟩
      have kM : hk g1 (hN g) = 14 ∧ hl g1 (hN g) = m + 1 := by
        have a1 := h1.1.k (i := hN g) (by show hN g < hN g + 1; omega)
        have a2 := h1.1.l (i := hN g) (by show hN g < hN g + 1; omega)
        exact ⟨a1.trans alA_k, a2.trans alA_l⟩
      obtain ⟨g', i1, i2, i3⟩ := ih (k + 1) (wR g1 (hN g) (va_up (hR g1 (hN g)) k (some (c k)))) km ⟨h1.1.tr (Sm.wR rfl), h1.2.1, h1.2.2.1, h1.2.2.2⟩ (fun j hj => by
        rw [wR_eq]
        show (if j = k then _ else _) = _
        by_cases e : j = k
        · rw [if_pos e, e]
        · rw [if_neg e]
          exact h2 j (by omega)) (by omega)
      refine ⟨g', i1, i2, fun d K => ?_⟩
      have cc : (nI m ≤ nI k) = False := eq_false (fun z => by
        have := (nI_leI (a := m) (b := k) (by omega) (by omega)).mp z
        omega)
      have i3' := fun K => i3 d K
      rw [i138_10]
      simp only [i138_11, i138_12, i138_13, i138_16, i138_17, i138_18, i138_19, i138_20, i138_21, i138_22, i138_25, nl_i, nl_r, nl_0, nl_j, nb0, nb1, nbI, orv_s, konN_v, konN_n, konN_e, true_and, and_true, and_self, if_true, if_false, ite_true, ite_false, isR_ref, true_or, or_true, isR_null, rg10, rg11, rg12, rg13, rg14, rg15, rg16, rh13, rh14, rh15, rh16, bI_T, bI_F, bI_Fb, i1z, Bool.false_eq_true, (fr x hxN).1, (fr x hxN).2.1, (fr x hxN).2.2, hx.1, hx.2, show (10 ≤ 14 ∧ 14 ≤ 16) = True from eq_true (by decide), show (13 ≤ 14 ∧ 14 ≤ 16) = True from eq_true (by decide), cc, inbT km (show m < 2 ^ 31 by omega), zn_nI (show k < 2 ^ 31 by omega), c1, kM.1, kM.2, (fr (c k) c3).1, c2, inbT (show k < m + 1 by omega) (show m + 1 < 2 ^ 31 by omega), nI_add, nI_1]
      exact i3' K
  obtain ⟨g1, ⟨a1, a2, a3, a3'⟩, a4, a5⟩ := st 0 (alA g 14 (m + 1)) (by omega) ⟨Sm.rf, rfl, rfl, fun _ _ => rfl⟩ (fun j hj => absurd hj (by omega))
  have kM : hk g1 (hN g) = 14 ∧ hl g1 (hN g) = m + 1 := by
    have e1 := a1.k (i := hN g) (by show hN g < hN g + 1; omega)
    have e2 := a1.l (i := hN g) (by show hN g < hN g + 1; omega)
    exact ⟨e1.trans alA_k, e2.trans alA_l⟩
  have bb := Sm.alA (W := noW) (g := g) (kd := 14) (n := m + 1)
  have s2 : Sm (fun i => i = hN g) (alA g 14 (m + 1)) (wR g1 (hN g) (va_up (hR g1 (hN g)) m (some y))) := a1.tr (Sm.wR rfl)
  refine ⟨wR g1 (hN g) (va_up (hR g1 (hN g)) m (some y)), ⟨?_, a2, a3⟩, ⟨kM, fun j hj => ?_⟩, a3', fun d K => ?_⟩
  · refine ⟨by rw [show hN (wR g1 (hN g) (va_up (hR g1 (hN g)) m (some y))) = hN g1 from rfl, a2]; omega, by rw [show hS (wR g1 (hN g) (va_up (hR g1 (hN g)) m (some y))) = hS g1 from rfl, a3]; omega, s2.2.2.1.trans bb.2.2.1, fun i hi => ?_, fun i hi _ => ?_⟩
    · have e1 := s2.2.2.2.1 i (by show i < hN g + 1; omega)
      have e2 := bb.2.2.2.1 i hi
      exact ⟨e1.1.trans e2.1, e1.2.trans e2.2⟩
    · have e1 := s2.2.2.2.2 i (by show i < hN g + 1; omega) (by omega)
      have e2 := bb.2.2.2.2 i hi (fun z => z)
      exact ⟨fun k => (e1.1 k).trans (e2.1 k), e1.2.1.trans e2.2.1, e1.2.2.1.trans e2.2.2.1, e1.2.2.2.trans e2.2.2.2⟩
  · rw [wR_eq]
    show (if j = m then _ else _) = _
    by_cases e : j = m
    · rw [if_pos e, if_pos e]
    · rw [if_neg e, if_neg e]
      exact a4 j (by omega)
  · have fr : ∀ i, i < hN g → hk g1 i = hk g i ∧ hl g1 i = hl g i := fun i hi => by
      have e1 := a1.k (i := i) (by show i < hN g + 1; omega)
      have e2 := a1.l (i := i) (by show i < hN g + 1; omega)
      exact ⟨e1.trans (bb.k hi), e2.trans (bb.l hi)⟩
    have a5' := fun K => a5 d K
    rw [nI_0] at a5'
    have m1 : nI m + 1 = nI (m + 1) := nI_add m 1
    simp only [i138_0, i138_1, i138_2, i138_3, i138_4, i138_7, i138_8, i138_9, in138, nl_i, nl_r, nl_0, nl_j, nb0, nb1, nbI, orv_s, konN_v, konN_n, konN_e, true_and, and_true, and_self, if_true, if_false, ite_true, ite_false, isR_ref, true_or, or_true, isR_null, rg10, rg11, rg12, rg13, rg14, rg15, rg16, rh13, rh14, rh15, rh16, bI_T, bI_F, bI_Fb, i1z, Bool.false_eq_true, hx.1, hx.2, show (10 ≤ 14 ∧ 14 ≤ 16) = True from eq_true (by decide), m1, v0N (show m + 1 < 1000 by omega), zn_nI (show m + 1 < 2 ^ 31 by omega), a5', i138_28, i138_29, i138_30, i138_31, i138_32, i138_33, i138_34, kM.1, kM.2, (fr x hxN).1, (fr x hxN).2, (fr y hy.2).1, hy.1, inbT (show m < m + 1 by omega) (show m + 1 < 2 ^ 31 by omega), zn_nI (show m < 2 ^ 31 by omega)]
def zrow (v : Z5) : List Nat := [v.1, v.2.1, v.2.2.1, v.2.2.2.1, v.2.2.2.2]
def row5 (v : Z5) : Nat → Int32 := upd (upd (upd (upd (upd (fun _ => 0) 0 (nI v.1)) 1 (nI v.2.1)) 2 (nI v.2.2.1)) 3 (nI v.2.2.2.1)) 4 (nI v.2.2.2.2)
theorem k_alA' {i kd n : Nat} (h : ¬ i = hN g) : hk (alA g kd n) i = hk g i := (hk_alA i).trans (if_neg h)
theorem l_alA' {i kd n : Nat} (h : ¬ i = hN g) : hl (alA g kd n) i = hl g i := (hl_alA i).trans (if_neg h)
theorem wA_wF' {i k j : Nat} {v : Value} {f : Nat → Int32} : wA (wF g i k v) j f = wF (wA g j f) i k v := rfl
theorem wF_wF' {i k : Nat} {v w : Value} : wF (wF g i k v) i k w = wF g i k w := by
  refine ah_ext rfl rfl (fun _ => rfl) (fun j m => ?_) (fun _ => rfl) (fun _ => rfl) (fun _ => rfl) rfl
  show (if j = i ∧ m = k then w else if j = i ∧ m = k then v else _) = (if j = i ∧ m = k then w else _)
  by_cases e : j = i ∧ m = k
  · rw [if_pos e, if_pos e]
  · rw [if_neg e, if_neg e, if_neg e]
theorem alA_wF' {i k kd n : Nat} {v : Value} : alA (wF g i k v) kd n = wF (alA g kd n) i k v := rfl
theorem A_wF' {i k j : Nat} {v : Value} : hA (wF g i k v) j = hA g j := rfl
theorem N_wF' {i k : Nat} {v : Value} : hN (wF g i k v) = hN g := rfl
theorem N_alA' {kd n : Nat} : hN (alA g kd n) = hN g + 1 := rfl
theorem F_alA' {kd n i k : Nat} : hF (alA g kd n) i k = hF g i k := rfl
theorem F_wA' {i k j : Nat} {f : Nat → Int32} : hF (wA g j f) i k = hF g i k := rfl
def viN (v : Value) : Int32 := match v with
  | .int x => x
  | _ => 0
theorem viN_i {x : Int32} : viN (.int x) = x := rfl
theorem s_belv (m : Nat) (h : AH) (d : Nat) (K : AO → AH → Prop) (hm : 1 ≤ m) (hm2 : m < 100000) (r : Nat) (x1 : hk h r = 9) (x3 : hF h r 0 = .int (viN (hF h r 0))) : EvM d 102 [.ref r, .int (nI m)] h K = K (.inl (some (.int (nI (rv (viN (hF h r 0)) % m))))) (wF h r 0 (.int (sdN (viN (hF h r 0))))) := s_bel x1 x3 hm (by omega)
/-- a random zone -/
theorem s_rz (h1 : hk g r = 9) (h2 : r < hN g) (h3 : hF g r 0 = .int sd) (hn : 1 ≤ n ∧ n ≤ 4) (hz : z < n) : ∃ v s x6 x7, zoK v ∧ ∀ d K, Ev (d + 1) 140 73 [l0, l1, some (.ref r), some (.ref l), some (.int (nI n)), some (.int (nI z)), l6, l7, l8] [] g K = Ev (d + 1) 140 203 [l0, l1, some (.ref r), some (.ref l), some (.int (nI n)), some (.int (nI z)), some (.int x6), some (.int x7), some (.ref (hN g))] [] (wF (wA (alA g 10 5) (hN g) (row5 v)) r 0 (.int s)) K := by
  obtain ⟨k1, e1⟩ : ∃ k, k = rv sd % 100 := ⟨_, rfl⟩
  obtain ⟨k2, e2⟩ : ∃ k, k = rv (sdN sd) % 120 := ⟨_, rfl⟩
  obtain ⟨k3, e3⟩ : ∃ k, k = rv (sdN (sdN sd)) % 99 := ⟨_, rfl⟩
  obtain ⟨k4, e4⟩ : ∃ k, k = rv (sdN (sdN (sdN sd))) % 2 := ⟨_, rfl⟩
  obtain ⟨k5, e5⟩ : ∃ k, k = rv (sdN (sdN (sdN (sdN sd)))) % (if k4 = 0 then 999 else 30) := ⟨_, rfl⟩
  obtain ⟨k6, e6⟩ : ∃ k, k = rv (sdN (sdN (sdN (sdN (sdN sd))))) % 150 := ⟨_, rfl⟩
  have k1l : k1 < 100 := by rw [e1]; exact Nat.mod_lt _ (by omega)
  have k2l : k2 < 120 := by rw [e2]; exact Nat.mod_lt _ (by omega)
  have k3l : k3 < 99 := by rw [e3]; exact Nat.mod_lt _ (by omega)
  have k4l : k4 < 2 := by rw [e4]; exact Nat.mod_lt _ (by omega)
  have k5l : k5 < 999 := by
    rw [e5]
    split
    · exact Nat.mod_lt _ (by omega)
    · exact Nat.lt_trans (Nat.mod_lt _ (by omega)) (by omega)
  have k6l : k6 < 150 := by rw [e6]; exact Nat.mod_lt _ (by omega)
  obtain ⟨q, hq⟩ : ∃ q, q = 600 / n * z := ⟨_, rfl⟩
  have q6 : q < 600 := by
    have : n = 1 ∨ n = 2 ∨ n = 3 ∨ n = 4 := by omega
    rcases this with e | e | e | e <;> subst e <;> omega
  obtain ⟨s, hs⟩ : ∃ s, s = 300 + q + k1 := ⟨_, rfl⟩
  obtain ⟨lo, hlo⟩ : ∃ s', s' = max 20 (min (s - 20 - k2) 900) := ⟨_, rfl⟩
  have lo9 : 20 ≤ lo ∧ lo ≤ 900 := by omega
  refine ⟨(min s 900, 1 + k3, 1 + k5, lo, min (lo + k6) 900), sdN (sdN (sdN (sdN (sdN (sdN sd))))), nI s, nI lo, ⟨⟨by show 100 ≤ min s 900; omega, by show min s 900 ≤ 900; omega⟩, ⟨by show 1 ≤ 1 + k3; omega, by show 1 + k3 ≤ 99; omega⟩, ⟨by show 1 ≤ 1 + k5; omega, by show 1 + k5 ≤ 999; omega⟩, lo9, ⟨by show lo ≤ min (lo + k6) 900; omega, by show min (lo + k6) 900 ≤ 900; omega⟩⟩, fun d K => ?_⟩
  have b100 := fun (h : AH) d K => s_belv 100 h d K (by omega) (by omega) r
  have b120 := fun (h : AH) d K => s_belv 120 h d K (by omega) (by omega) r
  have b99 := fun (h : AH) d K => s_belv 99 h d K (by omega) (by omega) r
  have b2 := fun (h : AH) d K => s_belv 2 h d K (by omega) (by omega) r
  have b999 := fun (h : AH) d K => s_belv 999 h d K (by omega) (by omega) r
  have b30 := fun (h : AH) d K => s_belv 30 h d K (by omega) (by omega) r
  have b150 := fun (h : AH) d K => s_belv 150 h d K (by omega) (by omega) r
  have j100 : (100 : Int32) = nI 100 := rfl
  have j120 : (120 : Int32) = nI 120 := rfl
  have j99 : (99 : Int32) = nI 99 := rfl
  have j2 : (2 : Int32) = nI 2 := rfl
  have j999 : (999 : Int32) = nI 999 := rfl
  have j30 : (30 : Int32) = nI 30 := rfl
  have j150 : (150 : Int32) = nI 150 := rfl
  have j600 : (600 : Int32) = nI 600 := rfl
  have j300 : (300 : Int32) = nI 300 := rfl
  have j900 : (900 : Int32) = nI 900 := rfl
  have j20 : (20 : Int32) = nI 20 := rfl
  have j1 : (1 : Int32) = nI 1 := rfl
  have j3 : (3 : Int32) = nI 3 := rfl
  have j4 : (4 : Int32) = nI 4 := rfl
  have j5 : (5 : Int32) = nI 5 := rfl
  have j0 : (0 : Int32) = nI 0 := rfl
  have nlt : (nI n ≤ nI z) = False := eq_false (fun y => by
    have := (nI_leI (a := n) (b := z) (by omega) (by omega)).mp y
    omega)
  have n0 : (nI n = nI 0) = False := eq_false (fun y => by have := nI_inj (by omega) (by omega) y; omega)
  have rN : ¬ r = hN g := by omega
  have d600 : nI 600 / nI n = nI (600 / n) := dv_nI (by omega) (by omega) (by omega)
  have qm : nI (600 / n) * nI z = nI q := by rw [hq]; exact nI_mulN _ _
  have sm1 : nI (300 + q + k1) = nI s := by rw [hs]
  have su1 : nI s - nI 20 = nI (s - 20) := nI_sub (by omega)
  have su2 : nI (s - 20) - nI k2 = nI (s - 20 - k2) := nI_sub (by omega)
  have mm1 : (if nI (s - 20 - k2) < nI 900 then nI (s - 20 - k2) else nI 900) = nI (min (s - 20 - k2) 900) := mnN (by omega) (by omega)
  have mm2 : (if nI 20 < nI (min (s - 20 - k2) 900) then nI (min (s - 20 - k2) 900) else nI 20) = nI lo := by rw [hlo]; exact mxN (by omega) (by omega)
  have mm3 : (if nI s < nI 900 then nI s else nI 900) = nI (min s 900) := mnN (by omega) (by omega)
  have mm4 : (if nI (lo + k6) < nI 900 then nI (lo + k6) else nI 900) = nI (min (lo + k6) 900) := mnN (by omega) (by omega)
  have v5 : (¬ (nI 5 < nI 0 ∨ 60000000 < 5)) = True := v0N (by omega)
  have i0 : inb (nI 0) 5 = True := inbT (by omega) (by omega)
  have i1 : inb (nI 1) 5 = True := inbT (by omega) (by omega)
  have i2 : inb (nI 2) 5 = True := inbT (by omega) (by omega)
  have i3 : inb (nI 3) 5 = True := inbT (by omega) (by omega)
  have i4 : inb (nI 4) 5 = True := inbT (by omega) (by omega)
  have zz : ∀ k : Nat, k < 6 → zn (nI k) = k := fun k h => zn_nI (by omega)
  have z0 := zz 0 (by omega)
  have z1 := zz 1 (by omega)
  have z2 := zz 2 (by omega)
  have z3 := zz 3 (by omega)
  have z4 := zz 4 (by omega)
  have z5 := zz 5 (by omega)
  have aK : hk (alA g 10 5) (hN g) = 10 := alA_k
  have aL : hl (alA g 10 5) (hN g) = 5 := alA_l
  have aA : hA (alA g 10 5) (hN g) = fun _ => 0 := alA_A (kd := 10) (n := 5)
  rw [i140_73]
  by_cases h4 : k4 = 0
  · have e5' : rv (sdN (sdN (sdN (sdN sd)))) % 999 = k5 := by rw [e5, if_pos h4]
    simp only [i140_75, i140_77, i140_80, i140_83, i140_86, i140_88, i140_89, i140_91, i140_92, i140_93, i140_94, i140_96, i140_99, i140_100, i140_102, i140_104, i140_107, i140_109, i140_111, i140_112, i140_113, i140_115, i140_118, i140_119, i140_122, i140_125, i140_127, i140_128, i140_130, i140_131, i140_132, i140_135, i140_137, i140_140, i140_141, i140_142, i140_143, i140_144, i140_145, i140_147, i140_150, i140_151, i140_152, i140_153, i140_154, i140_155, i140_156, i140_157, i140_158, i140_161, i140_164, i140_167, i140_170, i140_172, i140_175, i140_176, i140_177, i140_178, i140_179, i140_181, i140_182, i140_183, i140_184, i140_187, i140_189, i140_190, i140_193, i140_196, i140_197, i140_200, i140_201, nl_i, nl_r, nl_0, nl_j, nb0, nb1, nbI, orv_s, konN_v, konN_n, konN_e, true_and, and_true, and_self, if_true, if_false, ite_true, ite_false, isR_ref, true_or, or_true, isR_null, rg10, rg11, rg12, rg13, rg14, rg15, rg16, rh13, rh14, rh15, rh16, bI_T, bI_F, bI_Fb, i1z, Bool.false_eq_true, j100, j120, j99, j2, j999, j30, j150, j600, j300, j900, j20, j1, j3, j4, j5, j0, nlt, n0, not_false_eq_true, d600, qm, h1, h3, viN_i, b100, k_wF, wF_eq, ← e1, nI_add, sm1, b120, ← e2, su1, su2, mm1, mm2, v5, z5, alA_wF', wA_wF', wF_wF', k_wA, l_wA, k_alA' rN, N_wF', aK, aL, aA, A_wF', l_wF, i0, i1, i2, i3, i4, z0, z1, z2, z3, z4, wA_eq, wA_wA, mm3, b99, ← e3, b2, ← e4, h4, b999, e5', b150, ← e6, mm4, F_alA', F_wA']
    rfl
  · have h4' : k4 = 1 := by omega
    have e5' : rv (sdN (sdN (sdN (sdN sd)))) % 30 = k5 := by rw [e5, if_neg h4]
    have n10 : (nI 1 = nI 0) = False := eq_false (by decide)
    simp only [i140_75, i140_77, i140_80, i140_83, i140_86, i140_88, i140_89, i140_91, i140_92, i140_93, i140_94, i140_96, i140_99, i140_100, i140_102, i140_104, i140_107, i140_109, i140_111, i140_112, i140_113, i140_115, i140_118, i140_119, i140_122, i140_125, i140_127, i140_128, i140_130, i140_131, i140_132, i140_135, i140_137, i140_140, i140_141, i140_142, i140_143, i140_144, i140_145, i140_147, i140_150, i140_151, i140_152, i140_153, i140_154, i140_155, i140_156, i140_157, i140_158, i140_161, i140_164, i140_167, i140_170, i140_172, i140_175, i140_176, i140_177, i140_178, i140_179, i140_181, i140_182, i140_183, i140_184, i140_187, i140_189, i140_190, i140_193, i140_196, i140_197, i140_200, i140_201, nl_i, nl_r, nl_0, nl_j, nb0, nb1, nbI, orv_s, konN_v, konN_n, konN_e, true_and, and_true, and_self, if_true, if_false, ite_true, ite_false, isR_ref, true_or, or_true, isR_null, rg10, rg11, rg12, rg13, rg14, rg15, rg16, rh13, rh14, rh15, rh16, bI_T, bI_F, bI_Fb, i1z, Bool.false_eq_true, j100, j120, j99, j2, j999, j30, j150, j600, j300, j900, j20, j1, j3, j4, j5, j0, nlt, n0, not_false_eq_true, d600, qm, h1, h3, viN_i, b100, k_wF, wF_eq, ← e1, nI_add, sm1, b120, ← e2, su1, su2, mm1, mm2, v5, z5, alA_wF', wA_wF', wF_wF', k_wA, l_wA, k_alA' rN, N_wF', aK, aL, aA, A_wF', l_wF, i0, i1, i2, i3, i4, z0, z1, z2, z3, z4, wA_eq, wA_wA, mm3, b99, ← e3, b2, ← e4, h4', n10, b30, e5', b150, ← e6, mm4, F_alA', F_wA']
    rfl
end BEL
