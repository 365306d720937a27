/-! READING: the same bytes, as the class and as the reference keep them -/
def bV (a g : Nat → Int32) (n : Nat) : Prop := ∀ k, k < n → a k = (g k).toInt8.toInt32 ∧ 0 ≤ g k ∧ g k < 256
theorem b_lo : ∀ k, k < 128 → (nI k).toInt8.toInt32 = nI k := by decide +kernel
theorem b_hi : ∀ k, k < 256 → 128 ≤ k → (nI k).toInt8.toInt32 < 0 := by decide +kernel
theorem bV_c {a g : Nat → Int32} {n k : Nat} (hv : bV a g n) (hk : k < n) : (a k = g k ∧ 0 ≤ g k ∧ g k < 128) ∨ (a k < 0 ∧ 128 ≤ g k) := by
  obtain ⟨h1, h2, h3⟩ := hv k hk
  have e := nI_zn h2
  have h3' : zn (g k) < 256 := by
    rw [i32_le] at h2
    rw [i32_lt] at h3
    have t2 : (0 : Int) ≤ (g k).toInt := h2
    have t3 : (g k).toInt < 256 := h3
    show (g k).toInt.toNat < 256
    omega
  rcases Nat.lt_or_ge (zn (g k)) 128 with q | q
  · refine Or.inl ⟨?_, h2, ?_⟩
    · rw [h1, ← e]
      exact b_lo _ q
    · rw [← e]
      exact (nI_ltI (a := zn (g k)) (b := 128) (by omega) (by omega)).mpr q
  · refine Or.inr ⟨?_, ?_⟩
    · rw [h1, ← e]
      exact b_hi _ h3' q
    · rw [← e]
      exact (nI_leI (a := 128) (b := zn (g k)) (by omega) (by omega)).mpr q
section BV
variable {a g : Nat → Int32} {n p k : Nat} {c nu ec hs : Int32} {sc : Nat}
theorem bV_eq (hv : bV a g n) (hk : k < n) (hc : 0 ≤ c ∧ c < 128) : (a k = c) = (g k = c) := by
  rcases bV_c hv hk with h | h
  · rw [h.1]
  · refine propext ⟨fun z => ?_, fun z => ?_⟩
    · rw [z] at h; exact absurd h.1 (Int32.not_lt.mpr hc.1)
    · rw [z] at h; exact absurd hc.2 (Int32.not_lt.mpr h.2)
theorem i32_tr {x y z : Int32} (h1 : x < y) (h2 : y ≤ z) : x < z := by
  rw [i32_lt] at *
  rw [i32_le] at h2
  omega
theorem bV_rng {lo hi : Int32} (h0 : 0 ≤ lo) (h1 : hi < 128) (hv : bV a g n) (hk : k < n) : (lo ≤ a k ∧ a k ≤ hi) = (lo ≤ g k ∧ g k ≤ hi) := by
  rcases bV_c hv hk with h | h
  · rw [h.1]
  · refine propext ⟨fun z => absurd (i32_tr h.1 h0) (Int32.not_lt.mpr z.1), fun z => absurd (i32_tr h1 h.2) (Int32.not_lt.mpr z.2)⟩
theorem bV_sp (hv : bV a g n) (hk : k < n) : isSp (a k) = isSp (g k) := by
  unfold isSp
  simp only [bV_eq hv hk (show (0 : Int32) ≤ 32 ∧ (32 : Int32) < 128 by decide)]
theorem bV_dg (hv : bV a g n) (hk : k < n) : isDg (a k) = isDg (g k) := by
  unfold isDg
  simp only [bV_rng (show (0 : Int32) ≤ 48 by decide) (show (57 : Int32) < 128 by decide) hv hk]
theorem bV_lt (hv : bV a g n) (hk : k < n) : isLt (a k) = isLt (g k) := by
  unfold isLt
  simp only [bV_rng (show (0 : Int32) ≤ 97 by decide) (show (122 : Int32) < 128 by decide) hv hk]
theorem bV_dgv (hv : bV a g n) (hk : k < n) (hd : isDg (g k) = true) : a k = g k := by
  rcases bV_c hv hk with h | h
  · exact h.1
  · unfold isDg at hd
    rw [decide_eq_true_eq] at hd
    exact absurd (i32_tr (show (57 : Int32) < 128 by decide) h.2) (Int32.not_lt.mpr hd.2)
theorem runF_c {P : Int32 → Bool} (hP : ∀ k, k < n → P (a k) = P (g k)) : ∀ m p, (m = 0 ∨ p + m ≤ n) → runF P a m p = runF P g m p
  | 0, p, _ => rfl
  | m + 1, p, h => by
    have hp : p < n := by omega
    rw [runF, runF, hP p hp, runF_c hP m (p + 1) (by omega)]
theorem skT_c (hv : bV a g n) : skT a n p = skT g n p := runF_c (fun k hk => bV_sp hv hk) _ _ (by omega)
theorem kdT_c (hv : bV a g n) : kdT a n p = kdT g n p := by
  unfold kdT
  by_cases h : n ≤ p
  · rw [if_pos h, if_pos h]
  · rw [if_neg h, if_neg h, bV_dg hv (by omega), bV_lt hv (by omega)]
theorem teT_c (hv : bV a g n) : teT a n p = teT g n p := by
  unfold teT
  by_cases h : n ≤ p
  · rw [if_pos h, if_pos h]
  · rw [if_neg h, if_neg h, bV_dg hv (by omega), bV_lt hv (by omega), runF_c (fun k hk => bV_dg hv hk) _ _ (by omega), runF_c (fun k hk => bV_lt hv hk) _ _ (by omega)]
theorem nxT_c (hv : bV a g n) : nxT a n p = nxT g n p := by
  unfold nxT
  rw [teT_c hv, skT_c hv]
theorem rd_c (hv : bV a g n) : rd a n p nu ec hs sc = rd g n p nu ec hs sc := by
  funext i
  unfold rd
  rw [kdT_c hv, teT_c hv]
theorem sgB_c (hv : bV a g n) (hc : 0 ≤ c ∧ c < 128) : sgB a n p c = sgB g n p c := by
  unfold sgB
  rw [kdT_c hv]
  by_cases h : kdT g n p = 3
  · simp only [bV_eq hv (kdT_in (g := g) (by rw [h]; decide)) hc]
  · rw [decide_eq_false h, Bool.false_and, Bool.false_and]
theorem eqF_c (hv : bV a g n) (hk6 : k < 6) : ∀ m j, p + (j + m) ≤ n → j + m ≤ lenJ.getD k 0 → eqF (bytJ.getD k []) a p j m = eqF (bytJ.getD k []) g p j m
  | 0, j, _, _ => rfl
  | m + 1, j, h, h2 => by
    have hl := lenJ_le k hk6
    have hw := (bytJ_lt k hk6 j (by omega) (by omega)).1
    unfold isLt at hw
    rw [decide_eq_true_eq] at hw
    have hc : (0 : Int32) ≤ (bytJ.getD k []).getD j 0 ∧ (bytJ.getD k []).getD j 0 < 128 := by
      rw [i32_le, i32_le] at hw
      rw [i32_le, i32_lt]
      have a1 : (97 : Int) ≤ ((bytJ.getD k []).getD j 0).toInt := hw.1
      have a2 : ((bytJ.getD k []).getD j 0).toInt ≤ 122 := hw.2
      refine ⟨?_, ?_⟩
      · show (0 : Int) ≤ _
        omega
      · show _ < (128 : Int)
        omega
    rw [eqF, eqF, eqF_c hv hk6 m (j + 1) (by omega) (by omega)]
    simp only [bV_eq hv (show p + j < n by omega) hc]
theorem wdB_c (hv : bV a g n) (hk6 : k < 6) (hp : p ≤ n) : wdB a n p k = wdB g n p k := by
  have ht := teT_le (g := g) hp
  unfold wdB
  rw [kdT_c hv, teT_c hv]
  by_cases h : teT g n p = p + lenJ.getD k 0
  · rw [eqF_c hv hk6 _ 0 (by omega) (by omega)]
  · rw [decide_eq_false h, Bool.false_and, Bool.false_and]
theorem dg_nat {x : Int32} (h : isDg x = true) : ∃ e : Nat, e ≤ 9 ∧ x = nI (48 + e) := by
  unfold isDg at h
  rw [decide_eq_true_eq, i32_le, i32_le] at h
  have a1 : (48 : Int) ≤ x.toInt := h.1
  have a2 : x.toInt ≤ 57 := h.2
  refine ⟨x.toInt.toNat - 48, by omega, Int32.toInt_inj.mp ?_⟩
  rw [nI_toInt (by omega)]
  omega
theorem nI_mul (a b : Nat) : nI a * nI b = nI (a * b) := (Int32.ofNat_mul a b).symm
theorem nm_nat (hv : bV a g n) : ∀ m p k, p + m ≤ n → (∀ i, p ≤ i → i < p + m → isDg (g i) = true) → k ≤ 1000000 → ∃ k', k' ≤ 1000000 ∧ nmR g m p (nI k) = nI k' ∧ nmC a m p (nI (min k 100000)) = nI (min k' 100000)
  | 0, p, k, _, _, hk => ⟨k, hk, rfl, rfl⟩
  | m + 1, p, k, hn, hd, hk => by
    have d0 := hd p (Nat.le_refl _) (by omega)
    obtain ⟨e, he, hx⟩ := dg_nat d0
    have ha := bV_dgv hv (show p < n by omega) d0
    have e1 : 10 * nI k + g p - 48 = nI (10 * k + e) := by
      rw [hx, show (10 : Int32) = nI 10 from rfl, show (48 : Int32) = nI 48 from rfl, nI_mul, nI_add, nI_sub (by omega)]
      congr 1
      omega
    have e2 : 10 * nI (min k 100000) + (a p - 48) = nI (10 * min k 100000 + e) := by
      rw [ha, hx, show (10 : Int32) = nI 10 from rfl, show (48 : Int32) = nI 48 from rfl, nI_mul, nI_sub (by omega), nI_add]
      congr 1
      omega
    have f1 : (if (1000000 : Int32) < nI (10 * k + e) then 1000000 else nI (10 * k + e)) = nI (min (10 * k + e) 1000000) := by
      rw [show (1000000 : Int32) = nI 1000000 from rfl]
      by_cases h : 1000000 < 10 * k + e
      · rw [if_pos ((nI_ltI (by omega) (by omega)).mpr h), show min (10 * k + e) 1000000 = 1000000 by omega]
      · rw [if_neg (fun z => h ((nI_ltI (by omega) (by omega)).mp z)), show min (10 * k + e) 1000000 = 10 * k + e by omega]
    have f2 : (if nI (10 * min k 100000 + e) < (100000 : Int32) then nI (10 * min k 100000 + e) else 100000) = nI (min (min (10 * k + e) 1000000) 100000) := by
      rw [show (100000 : Int32) = nI 100000 from rfl]
      by_cases h : 10 * min k 100000 + e < 100000
      · rw [if_pos ((nI_ltI (by omega) (by omega)).mpr h)]
        congr 1
        omega
      · rw [if_neg (fun z => h ((nI_ltI (by omega) (by omega)).mp z))]
        congr 1
        omega
    rw [nmR, nmC, e1, e2, f1, f2]
    exact nm_nat hv m (p + 1) (min (10 * k + e) 1000000) (by omega) (fun i h1 h2 => hd i (by omega) (by omega)) (by omega)
/-- the number at p -/
def nmT (g : Nat → Int32) (n p : Nat) : Int32 := nmR g (teT g n p - p) p 0
theorem nm_ok (hv : bV a g n) (hp : p ≤ n) (hd : kdT g n p = 1) {lo hi : Int32} (hhi : hi < 100000) : (lo ≤ nmC a (teT g n p - p) p 0 ∧ nmC a (teT g n p - p) p 0 ≤ hi) = (lo ≤ nmT g n p ∧ nmT g n p ≤ hi) ∧ (nmT g n p ≤ hi → nmC a (teT g n p - p) p 0 = nmT g n p) := by
  have ht := teT_le (g := g) hp
  have hpn : p < n := kdT_in (by rw [hd]; decide)
  have hdg : isDg (g p) = true := by
    have := kd1_iff ▸ hd
    rw [bA_lt hpn] at this
    exact this
  have hte : teT g n p = runF isDg g (n - p) p := (kdT_dg (by omega) hdg).2
  obtain ⟨k', h1, h2, h3⟩ := nm_nat hv (teT g n p - p) p 0 (by omega) (fun i q1 q2 => by rw [hte] at q2; exact runF_in (n - p) p i q1 (by omega)) (by omega)
  rw [show min 0 100000 = 0 from rfl] at h3
  rw [nI_0] at h2 h3
  unfold nmT
  rw [h2, h3]
  by_cases h : k' ≤ 100000
  · rw [show min k' 100000 = k' by omega]
    exact ⟨rfl, fun _ => rfl⟩
  · have hbig : ∀ j : Nat, j ≤ 1000000 → 100000 ≤ j → ¬ nI j ≤ hi := fun j q1 q2 z => by
      rw [i32_le, nI_toInt (by omega)] at z
      rw [i32_lt] at hhi
      have t : hi.toInt < 100000 := hhi
      omega
    rw [show min k' 100000 = 100000 by omega]
    exact ⟨propext ⟨fun z => absurd z.2 (hbig _ (by omega) (by omega)), fun z => absurd z.2 (hbig _ h1 (by omega))⟩, fun z => absurd z (hbig _ h1 (by omega))⟩
end BV
/-- what a heap of the class's reader is over: heap, stacks, their content, numbers, rows, longs, setups -/
abbrev HP : Type := AH × (Nat → Bool) × (Nat → Nat → Int32) × (Nat → Nat → Int32) × (Nat → Nat → Int32) × (Nat → Nat → Int64) × (Nat → Nat)
def cH (c : HP) (r st : Nat → Int32) : AH := MH c.1 c.2.1 c.2.2.1 (pS c.2.2.2.1 13 r) (upf c.2.2.2.2.1 15 st) c.2.2.2.2.2.1 c.2.2.2.2.2.2
def rH (c : HP) (m D : Nat → Int32) : AH := MH c.1 c.2.1 c.2.2.1 (pS c.2.2.2.1 140 m) (upf c.2.2.2.2.1 143 D) c.2.2.2.2.2.1 c.2.2.2.2.2.2
def cB (c : HP) : Nat → Int32 := c.2.2.2.2.1 14
def rB (c : HP) : Nat → Int32 := c.2.2.2.2.1 141
section CH
variable {d : Nat} {hh : AH} {K : AO → AH → Prop} {c : HP} {g r st m D : Nat → Int32} {n p e k x dp nc : Nat} {u v nu ec hs lo hi ob ud sn : Int32} {sc : Nat}
theorem c_B : (upf c.2.2.2.2.1 15 st) 14 = cB c := upf_ne _ _ (by decide)
theorem r_B : (upf c.2.2.2.2.1 143 D) 141 = rB c := upf_ne _ _ (by decide)
theorem c_k : hk (cH c r st) 13 = 5 := k_13
theorem c_f2 : hF (cH c r st) 13 2 = .int (r 2) := f_13_2.trans (by rw [pS_b])
theorem c_f3 : hF (cH c r st) 13 3 = .int (r 3) := f_13_3.trans (by rw [pS_b])
theorem c_f6 : hF (cH c r st) 13 6 = .int (r 6) := f_13_6.trans (by rw [pS_b])
theorem c_f10 : hF (cH c r st) 13 10 = .int (r 10) := f_13_10.trans (by rw [pS_b])
theorem c_f12 : hF (cH c r st) 13 12 = .int (r 12) := f_13_12.trans (by rw [pS_b])
theorem c_w10 : wF (cH c r st) 13 10 (.int v) = cH c (upf r 10 v) st := w_13_10.trans (by rw [pS_up]; rfl)
theorem c_w12 : wF (cH c r st) 13 12 (.int v) = cH c (upf r 12 v) st := w_13_12.trans (by rw [pS_up]; rfl)
theorem r_k : hk (rH c m D) 140 = 7 := k_140
theorem r_f4 : hF (rH c m D) 140 4 = .int (m 4) := f_140_4.trans (by rw [pS_b])
theorem r_f13 : hF (rH c m D) 140 13 = .int (m 13) := f_140_13.trans (by rw [pS_b])
theorem r_f14 : hF (rH c m D) 140 14 = .int (m 14) := f_140_14.trans (by rw [pS_b])
theorem r_w4 : wF (rH c m D) 140 4 (.int v) = rH c (upf m 4 v) D := w_140_4.trans (by rw [pS_up]; rfl)
theorem r_w13 : wF (rH c m D) 140 13 (.int v) = rH c (upf m 13 v) D := w_140_13.trans (by rw [pS_up]; rfl)
theorem r_w14 : wF (rH c m D) 140 14 (.int v) = rH c (upf m 14 v) D := w_140_14.trans (by rw [pS_up]; rfl)
theorem r_f9 : hF (rH c m D) 140 9 = .ref 143 := f_140_9
theorem r_k3 : hk (rH c m D) 143 = 10 := k_143
theorem r_l3 : hl (rH c m D) 143 = 1451 := l_143
theorem r_a3 : hA (rH c m D) 143 = D := a_143.trans (upf_same _ _ _)
theorem r_wa3 {f : Nat → Int32} : wA (rH c m D) 143 f = rH c m f := wa_143.trans (by rw [upf_upf]; rfl)
theorem c_fail : EvM d 34 [.ref 13, .int u] (cH c r st) K = K (.inl (some (.int 0))) (cH c (upf (upf r 7 u) 8 (r 4)) st) := s_fail
theorem c_tok (hv : bV (cB c) g n) (hn : n ≤ 700) (hp : p ≤ n) : EvM (d + 1) 48 [.ref 13] (cH c (rd g n p nu ec hs sc) st) K = K (.inl none) (cH c (rd g n (nxT g n p) nu ec hs sc) st) := by
  have h := s_tok (d := d) (h := c.1) (T := c.2.1) (U := c.2.2.1) (S := c.2.2.2.1) (J := c.2.2.2.2.2.1) (G := c.2.2.2.2.2.2) (K := K) (nu := nu) (ec := ec) (hs := hs) (sc := sc) (c_B (c := c) (st := st)) hn hp
  rw [rd_c hv, nxT_c hv, rd_c hv] at h
  exact h
theorem c_signIs (hv : bV (cB c) g n) (hn : n ≤ 700) (hc : 0 ≤ u ∧ u < 128) : EvM d 46 [.ref 13, .int u] (cH c (rd g n p nu ec hs sc) st) K = K (.inl (some (.int (bI (sgB g n p u = true))))) (cH c (rd g n p nu ec hs sc) st) := by
  have h := s_signIs (d := d) (h := c.1) (T := c.2.1) (U := c.2.2.1) (S := c.2.2.2.1) (J := c.2.2.2.2.2.1) (G := c.2.2.2.2.2.2) (K := K) (p := p) (nu := nu) (ec := ec) (hs := hs) (sc := sc) (x := u) (c_B (c := c) (st := st)) hn
  rw [rd_c hv, sgB_c hv hc] at h
  exact h
theorem c_takeSign (hv : bV (cB c) g n) (hn : n ≤ 700) (hp : p ≤ n) (hc : 0 ≤ u ∧ u < 128) : EvM (d + 2) 45 [.ref 13, .int u] (cH c (rd g n p nu ec hs sc) st) K =
    if sgB g n p u = true then K (.inl (some (.int 1))) (cH c (rd g n (nxT g n p) nu ec hs sc) st) else K (.inl (some (.int 0))) (cH c (upf (upf (rd g n p nu ec hs sc) 7 (-2)) 8 (nI p)) st) := by
  have h := s_takeSign (d := d) (h := c.1) (T := c.2.1) (U := c.2.2.1) (S := c.2.2.2.1) (J := c.2.2.2.2.2.1) (G := c.2.2.2.2.2.2) (K := K) (nu := nu) (ec := ec) (hs := hs) (sc := sc) (x := u) (c_B (c := c) (st := st)) hn hp
  rw [rd_c hv, sgB_c hv hc, nxT_c hv, rd_c hv] at h
  exact h
theorem c_putStep (hc : sc < 700) : EvM d 43 [.ref 13, .int u] (cH c (rd g n p nu ec hs sc) st) K = K (.inl none) (cH c (rd g n p nu ec hs (sc + 1)) (upd st sc u)) := s_putStep hc
theorem c_wordIs (hk6 : k < 6) (hv : bV (cB c) g n) (hn : n ≤ 700) (hp : p ≤ n) : EvM (d + 4) 47 [.ref 13, litV k] (cH c (rd g n p nu ec hs sc) st) K = K (.inl (some (.int (bI (wdB g n p k = true))))) (cH c (rd g n p nu ec hs sc) st) := by
  have h := s_wordIs (d := d) (h := c.1) (T := c.2.1) (U := c.2.2.1) (S := c.2.2.2.1) (J := c.2.2.2.2.2.1) (G := c.2.2.2.2.2.2) (K := K) (nu := nu) (ec := ec) (hs := hs) (sc := sc) hk6 (c_B (c := c) (st := st)) hn hp
  rw [rd_c hv, wdB_c hv hk6 hp] at h
  exact h
theorem c_takeNumber (hv : bV (cB c) g n) (hn : n ≤ 700) (hp : p ≤ n) (hhi : hi < 100000) : EvM (d + 2) 44 [.ref 13, .int lo, .int hi] (cH c (rd g n p nu ec hs sc) st) K =
    if kdT g n p = 1 then (if lo ≤ nmT g n p ∧ nmT g n p ≤ hi then K (.inl (some (.int 1))) (cH c (rd g n (nxT g n p) (nmT g n p) ec hs sc) st) else K (.inl (some (.int 0))) (cH c (upf (upf (rd g n p nu ec hs sc) 7 (-3)) 8 (nI p)) st)) else K (.inl (some (.int 0))) (cH c (upf (upf (rd g n p nu ec hs sc) 7 (-2)) 8 (nI p)) st) := by
  have h := s_takeNumber (d := d) (h := c.1) (T := c.2.1) (U := c.2.2.1) (S := c.2.2.2.1) (J := c.2.2.2.2.2.1) (G := c.2.2.2.2.2.2) (K := K) (nu := nu) (ec := ec) (hs := hs) (sc := sc) (lo := lo) (hi := hi) (c_B (c := c) (st := st)) hn hp
  rw [kdT_c hv, teT_c hv, nxT_c hv, rd_c hv] at h
  by_cases h1 : kdT g n p = 1
  · have q := nm_ok hv hp h1 (lo := lo) hhi
    rw [if_pos h1]
    rw [if_pos h1] at h
    by_cases h2 : lo ≤ nmT g n p ∧ nmT g n p ≤ hi
    · rw [if_pos h2]
      rw [if_pos (q.1.mpr h2), q.2 h2.2, rd_c hv] at h
      exact h
    · rw [if_neg h2]
      rw [if_neg (fun z => h2 (q.1.mp z))] at h
      exact h
  · rw [if_neg h1]
    rw [if_neg h1] at h
    exact h
theorem r_next (hg : rB c = g) (hn : n ≤ 700) (hx : x ≤ n) : EvM (d + 1) 99 [.ref 140] (rH c (rm n x dp ob ud sn) D) K = K (.inl (some (.int (bA g n (skT g n x))))) (rH c (rm n (skT g n x) dp ob ud sn) D) := s_next (r_B.trans hg) hn hx
theorem r_isGood : EvM d 100 [.ref 140] (rH c m D) K = K (.inl (some (.int (bI (m 5 = 0))))) (rH c m D) := s_isGood
theorem r_report (h5 : m 5 = 0) : EvM d 101 [.ref 140, .int u, .int v] (rH c m D) K = K (.inl none) (rH c (upf (upf m 5 u) 6 v) D) := s_report h5
theorem r_reportB (h5 : ¬ m 5 = 0) : EvM d 101 [.ref 140, .int u, .int v] (rH c m D) K = K (.inl none) (rH c m D) := s_reportB h5
theorem r_expectB (h5 : ¬ m 5 = 0) : EvM (d + 1) 104 [.ref 140, .int u] (rH c m D) K = K (.inl none) (rH c m D) := s_expectB h5
theorem r_numberB (h5 : ¬ m 5 = 0) : EvM (d + 1) 105 [.ref 140, .int u, .int v] (rH c m D) K = K (.inl (some (.int 0))) (rH c m D) := s_numberB h5
theorem r_emitB (h5 : ¬ m 5 = 0) : EvM (d + 1) 106 [.ref 140, .int u] (rH c m D) K = K (.inl none) (rH c m D) := s_emitB h5
theorem r_takeWordB (h5 : ¬ m 5 = 0) : EvM (d + 1) 103 [.ref 140, litV k] (rH c m D) K = K (.inl (some (.int 0))) (rH c m D) := s_takeWordB h5
theorem r_expect (hg : rB c = g) (hn : n ≤ 700) (hx : x ≤ n) : EvM (d + 2) 104 [.ref 140, .int u] (rH c (rm n x dp ob ud sn) D) K =
    if bA g n (skT g n x) = u then K (.inl none) (rH c (rm n (skT g n x + 1) dp ob ud sn) D) else K (.inl none) (rH c (upf (upf (rm n (skT g n x) dp ob ud sn) 5 (-2)) 6 (nI (skT g n x))) D) := s_expect (r_B.trans hg) hn hx
theorem r_number (hg : rB c = g) (hn : n ≤ 700) (hx : x ≤ n) (hp : skT g n x = p) : EvM (d + 2) 105 [.ref 140, .int lo, .int hi] (rH c (rm n x dp ob ud sn) D) K =
    if kdT g n p = 1 then (if lo ≤ nmT g n p ∧ nmT g n p ≤ hi then K (.inl (some (.int (nmT g n p)))) (rH c (rm n (teT g n p) dp ob ud sn) D) else K (.inl (some (.int (nmT g n p)))) (rH c (upf (upf (rm n (teT g n p) dp ob ud sn) 5 (-3)) 6 (nI p)) D)) else K (.inl (some (.int 0))) (rH c (upf (upf (rm n p dp ob ud sn) 5 (-2)) 6 (nI p)) D) := s_number (r_B.trans hg) hn hx hp
theorem r_takeWord (hk6 : k < 6) (hg : rB c = g) (hn : n ≤ 700) (hx : x ≤ n) : EvM (d + 4) 103 [.ref 140, litV k] (rH c (rm n x dp ob ud sn) D) K =
    if wdB g n (skT g n x) k = true then K (.inl (some (.int 1))) (rH c (rm n (skT g n x + lenJ.getD k 0) dp ob ud sn) D) else K (.inl (some (.int 0))) (rH c (rm n (skT g n x) dp ob ud sn) D) := s_takeWord hk6 (r_B.trans hg) hn hx
theorem r_emit (hD : D 8 = nI nc) (hc : nc < 1200) : EvM (d + 1) 106 [.ref 140, .int u] (rH c (rm n x dp ob ud sn) D) K = K (.inl none) (rH c (rm n x dp ob ud sn) (upd (upd D (251 + nc) u) 8 (nI (nc + 1)))) := s_emit hD hc
end CH
