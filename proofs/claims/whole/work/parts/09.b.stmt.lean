/-! READING: what a draft says; statements -/
def bR (a : Nat → Nat → Int32) (D : Nat → Int32) (k : Nat) : Prop := (D (111 + 7 * k + 6) = 0 ∧ a 6 k = -1 ∧ a 7 k = -1) ∨ (D (111 + 7 * k + 6) = 1 ∧ a 6 k = D (111 + 7 * k + 4) ∧ a 7 k = D (111 + 7 * k + 5) ∧ 20 ≤ a 6 k ∧ 20 ≤ a 7 k)
def zR (a : Nat → Nat → Int32) (D : Nat → Int32) (z : Nat) : Prop := (D (9 + 7 * z) = a 1 z ∧ D (9 + 7 * z + 1) = a 2 z ∧ D (9 + 7 * z + 2) = a 3 z ∧ D (9 + 7 * z + 3) = a 4 z ∧ D (9 + 7 * z + 4) = a 5 z ∧ D (9 + 7 * z + 5) = a 1 z) ∧ (100 ≤ a 1 z ∧ a 1 z ≤ 900) ∧ (1 ≤ a 2 z ∧ a 2 z ≤ 99) ∧ (1 ≤ a 3 z ∧ a 3 z ≤ 999)
def DJ (q : Nat → Int32) (a : Nat → Nat → Int32) (n : Nat) (pg D : Nat → Int32) (hs sn : Int32) (nz : Nat) : Prop :=
  (q 0 = nI nz ∧ nz ≤ 6 ∧ D 0 = nI nz) ∧ (D 1 = 0 ∧ D 2 = 0 ∧ D 5 = 0) ∧ (D 3 = q 1 ∧ D 4 = q 2 ∧ (1 ≤ q 1 ∧ q 1 ≤ 9) ∧ (0 ≤ q 2 ∧ q 2 ≤ 20)) ∧ (∀ z, z < nz → zR a D z) ∧ (∀ z, z < 6 → D (9 + 7 * z + 6) = 0) ∧
  (∀ k, k < 20 → (D (111 + 7 * k) = 0 ∧ D (111 + 7 * k + 1) = 0 ∧ D (111 + 7 * k + 2) = 0 ∧ D (111 + 7 * k + 3) = 0) ∧ bR a D k) ∧ HX n pg D ∧ ((hs = 0 ∧ sn = 0 ∧ D 8 = 0) ∨ (hs = 1 ∧ sn = 1))
section DJ1
variable {q pg D D' : Nat → Int32} {a : Nat → Nat → Int32} {n nz z j k : Nat} {v1 v2 v3 v4 v5 hs sn : Int32}
theorem zD_o (h : ¬ (9 + 7 * z ≤ j ∧ j ≤ 9 + 7 * z + 5)) (h0 : ¬ j = 0) : zD D z v1 v2 v3 v4 v5 j = D j := by
  unfold zD
  rw [upd_nz h0, upd_nz (by omega), upd_nz (by omega), upd_nz (by omega), upd_nz (by omega), upd_nz (by omega), upd_nz (by omega)]
theorem zD_0 : zD D z v1 v2 v3 v4 v5 0 = nI (z + 1) := by unfold zD; exact upd_eq
theorem zD_a : zD D z v1 v2 v3 v4 v5 (9 + 7 * z) = v1 := by
  unfold zD
  rw [upd_nz (by omega), upd_nz (by omega), upd_nz (by omega), upd_nz (by omega), upd_nz (by omega), upd_nz (by omega), upd_eq]
theorem zD_b : zD D z v1 v2 v3 v4 v5 (9 + 7 * z + 1) = v2 := by
  unfold zD
  rw [upd_nz (by omega), upd_nz (by omega), upd_nz (by omega), upd_nz (by omega), upd_nz (by omega), upd_eq]
theorem zD_c : zD D z v1 v2 v3 v4 v5 (9 + 7 * z + 2) = v3 := by
  unfold zD
  rw [upd_nz (by omega), upd_nz (by omega), upd_nz (by omega), upd_nz (by omega), upd_eq]
theorem zD_d : zD D z v1 v2 v3 v4 v5 (9 + 7 * z + 3) = v4 := by
  unfold zD
  rw [upd_nz (by omega), upd_nz (by omega), upd_nz (by omega), upd_eq]
theorem zD_e : zD D z v1 v2 v3 v4 v5 (9 + 7 * z + 4) = v5 := by
  unfold zD
  rw [upd_nz (by omega), upd_nz (by omega), upd_eq]
theorem zD_f : zD D z v1 v2 v3 v4 v5 (9 + 7 * z + 5) = v1 := by
  unfold zD
  rw [upd_nz (by omega), upd_eq]
theorem HX_congr (h7 : D' 7 = D 7) (h8 : D' 8 = D 8) (hj : ∀ j, j < 1200 → D' (251 + j) = D (251 + j)) (h : HX n pg D) : HX n pg D' := by
  rcases h with ⟨a1, a2⟩ | ⟨a1, L, R, b1, b2, b3, b4, b5, b6⟩
  · exact Or.inl ⟨h7.trans a1, a2⟩
  · exact Or.inr ⟨fun z => a1 (h7.symm.trans z), L, R, b1, b2, b3, h8.trans b4, b5, fun j h => (hj j (by omega)).trans (b6 j h)⟩
theorem zR_congr {a' : Nat → Nat → Int32} (ha : ∀ i, 1 ≤ i → i ≤ 5 → a' i z = a i z) (hD : ∀ j, j ≤ 5 → D' (9 + 7 * z + j) = D (9 + 7 * z + j)) (h : zR a D z) : zR a' D' z := by
  unfold zR at h ⊢
  rw [ha 1 (by omega) (by omega), ha 2 (by omega) (by omega), ha 3 (by omega) (by omega), ha 4 (by omega) (by omega), ha 5 (by omega) (by omega), hD 1 (by omega), hD 2 (by omega), hD 3 (by omega), hD 4 (by omega), hD 5 (by omega), show D' (9 + 7 * z) = D (9 + 7 * z) from hD 0 (by omega)]
  exact h
theorem DJ_zone (h : DJ q a n pg D hs sn nz) (h6 : nz < 6) (w1 : 100 ≤ v1 ∧ v1 ≤ 900) (w2 : 1 ≤ v2 ∧ v2 ≤ 99) (w3 : 1 ≤ v3 ∧ v3 ≤ 999) : DJ (upf q 0 (nI (nz + 1))) (zW a nz v1 v2 v3 v4 v5) n pg (zD D nz v1 v2 v3 v4 v5) hs sn (nz + 1) := by
  obtain ⟨⟨a1, a2, a3⟩, ⟨b1, b2, b3⟩, ⟨c1, c2, c3, c4⟩, dd, e, f, g, i⟩ := h
  have o : ∀ j, ¬ (9 + 7 * nz ≤ j ∧ j ≤ 9 + 7 * nz + 5) → ¬ j = 0 → zD D nz v1 v2 v3 v4 v5 j = D j := fun j => zD_o
  have zw : ∀ i x, ¬ x = nz → zW a nz v1 v2 v3 v4 v5 i x = a i x := fun i x hx => by
    unfold zW upf upd
    by_cases e1 : i = 1
    · subst e1; simp [hx]
    · by_cases e2 : i = 2
      · subst e2; simp [hx]
      · by_cases e3 : i = 3
        · subst e3; simp [hx]
        · by_cases e4 : i = 4
          · subst e4; simp [hx]
          · by_cases e5 : i = 5
            · subst e5; simp [hx]
            · simp [e1, e2, e3, e4, e5]
  have zw6 : ∀ i, 6 ≤ i → zW a nz v1 v2 v3 v4 v5 i = a i := fun i hi => by
    unfold zW
    rw [upf_ne _ _ (by omega), upf_ne _ _ (by omega), upf_ne _ _ (by omega), upf_ne _ _ (by omega), upf_ne _ _ (by omega)]
  refine ⟨⟨rfl, by omega, zD_0⟩, ⟨(o 1 (by omega) (by omega)).trans b1, (o 2 (by omega) (by omega)).trans b2, (o 5 (by omega) (by omega)).trans b3⟩, ⟨(o 3 (by omega) (by omega)).trans c1, (o 4 (by omega) (by omega)).trans c2, c3, c4⟩, fun z hz => ?_, fun z hz => (o _ (by omega) (by omega)).trans (e z hz), fun k hk => ?_, HX_congr (o 7 (by omega) (by omega)) (o 8 (by omega) (by omega)) (fun j _ => o _ (by omega) (by omega)) g, ?_⟩
  · by_cases ez : z = nz
    · subst ez
      have y1 : zW a z v1 v2 v3 v4 v5 1 z = v1 := if_pos rfl
      have y2 : zW a z v1 v2 v3 v4 v5 2 z = v2 := if_pos rfl
      have y3 : zW a z v1 v2 v3 v4 v5 3 z = v3 := if_pos rfl
      have y4 : zW a z v1 v2 v3 v4 v5 4 z = v4 := if_pos rfl
      have y5 : zW a z v1 v2 v3 v4 v5 5 z = v5 := if_pos rfl
      unfold zR
      rw [y1, y2, y3, y4, y5]
      exact ⟨⟨zD_a, zD_b, zD_c, zD_d, zD_e, zD_f⟩, w1, w2, w3⟩
    · exact zR_congr (fun i _ _ => zw i z ez) (fun j hj => o _ (by omega) (by omega)) (dd z (by omega))
  · obtain ⟨f1, f2⟩ := f k hk
    refine ⟨⟨(o _ (by omega) (by omega)).trans f1.1, (o _ (by omega) (by omega)).trans f1.2.1, (o _ (by omega) (by omega)).trans f1.2.2.1, (o _ (by omega) (by omega)).trans f1.2.2.2⟩, ?_⟩
    unfold bR at f2 ⊢
    rw [zw6 6 (by omega), zw6 7 (by omega), o _ (by omega) (by omega), o _ (by omega) (by omega), o _ (by omega) (by omega)]
    exact f2
  · rcases i with i | i
    · exact Or.inl ⟨i.1, i.2.1, (o 8 (by omega) (by omega)).trans i.2.2⟩
    · exact Or.inr i
theorem bD_o (h : ¬ (111 + 7 * k + 4 ≤ j ∧ j ≤ 111 + 7 * k + 6)) : bD D k v1 v2 j = D j := by
  unfold bD
  rw [upd_nz (by omega), upd_nz (by omega), upd_nz (by omega)]
theorem DJ_band (h : DJ q a n pg D hs sn nz) (h2 : 2 ≤ k ∧ k < 20) (w1 : 20 ≤ v1 ∧ v1 ≤ 900) (w2 : v1 ≤ v2 ∧ v2 ≤ 900) : DJ q (bW a k v1 v2) n pg (bD D k v1 v2) hs sn nz := by
  obtain ⟨⟨a1, a2, a3⟩, ⟨b1, b2, b3⟩, ⟨c1, c2, c3, c4⟩, dd, e, f, g, i⟩ := h
  have o : ∀ j, ¬ (111 + 7 * k + 4 ≤ j ∧ j ≤ 111 + 7 * k + 6) → bD D k v1 v2 j = D j := fun j => bD_o
  have bw : ∀ i, i ≤ 5 → bW a k v1 v2 i = a i := fun i hi => by
    unfold bW
    rw [upf_ne _ _ (by omega), upf_ne _ _ (by omega)]
  refine ⟨⟨a1, a2, (o _ (by omega)).trans a3⟩, ⟨(o 1 (by omega)).trans b1, (o 2 (by omega)).trans b2, (o 5 (by omega)).trans b3⟩, ⟨(o 3 (by omega)).trans c1, (o 4 (by omega)).trans c2, c3, c4⟩, fun z hz => ?_, fun z hz => (o _ (by omega)).trans (e z hz), fun k' hk => ?_, HX_congr (o 7 (by omega)) (o 8 (by omega)) (fun j _ => o _ (by omega)) g, ?_⟩
  · exact zR_congr (fun i _ h5 => by rw [bw i h5]) (fun j hj => o _ (by omega)) (dd z hz)
  · obtain ⟨f1, f2⟩ := f k' hk
    refine ⟨⟨(o _ (by omega)).trans f1.1, (o _ (by omega)).trans f1.2.1, (o _ (by omega)).trans f1.2.2.1, (o _ (by omega)).trans f1.2.2.2⟩, ?_⟩
    by_cases ek : k' = k
    · subst ek
      have y6 : bW a k' v1 v2 6 k' = v1 := if_pos rfl
      have y7 : bW a k' v1 v2 7 k' = v2 := if_pos rfl
      have d4 : bD D k' v1 v2 (111 + 7 * k' + 4) = v1 := by
        unfold bD
        rw [upd_nz (by omega), upd_nz (by omega), upd_eq]
      have d5 : bD D k' v1 v2 (111 + 7 * k' + 5) = v2 := by
        unfold bD
        rw [upd_nz (by omega), upd_eq]
      refine Or.inr ⟨if_pos rfl, y6.trans d4.symm, y7.trans d5.symm, by rw [y6]; exact w1.1, by rw [y7]; exact Int32.le_trans w1.1 w2.1⟩
    · have y6 : bW a k v1 v2 6 k' = a 6 k' := if_neg ek
      have y7 : bW a k v1 v2 7 k' = a 7 k' := if_neg ek
      unfold bR at f2 ⊢
      rw [y6, y7, o _ (by omega), o _ (by omega), o _ (by omega)]
      exact f2
  · rcases i with i | i
    · exact Or.inl ⟨i.1, i.2.1, (o 8 (by omega)).trans i.2.2⟩
    · exact Or.inr i
theorem DJ_heat {L R : List Int32} {st : Nat → Int32} (h : DJ q a n pg D 0 0 nz) (h8 : D 8 = 0) (hG : GX 11 L R) (hR : R.length ≤ 1200) : DJ q a L.length (apL st 0 L) (apR (upd D 7 1) 0 R) 1 1 nz := by
  obtain ⟨⟨a1, a2, a3⟩, ⟨b1, b2, b3⟩, ⟨c1, c2, c3, c4⟩, dd, e, f, g, i⟩ := h
  have o : ∀ j, j < 251 → ¬ j = 7 → ¬ j = 8 → apR (upd D 7 1) 0 R j = D j := fun j h1 h2 h3 => (apR_lo R _ 0 j (by omega) h3).trans (upd_nz h2)
  refine ⟨⟨a1, a2, (o 0 (by omega) (by omega) (by omega)).trans a3⟩, ⟨(o 1 (by omega) (by omega) (by omega)).trans b1, (o 2 (by omega) (by omega) (by omega)).trans b2, (o 5 (by omega) (by omega) (by omega)).trans b3⟩, ⟨(o 3 (by omega) (by omega) (by omega)).trans c1, (o 4 (by omega) (by omega) (by omega)).trans c2, c3, c4⟩, fun z hz => ?_, fun z hz => (o _ (by omega) (by omega) (by omega)).trans (e z hz), fun k hk => ?_, ?_, Or.inr ⟨rfl, rfl⟩⟩
  · exact zR_congr (fun i _ _ => rfl) (fun j hj => o _ (by omega) (by omega) (by omega)) (dd z hz)
  · obtain ⟨f1, f2⟩ := f k hk
    refine ⟨⟨(o _ (by omega) (by omega) (by omega)).trans f1.1, (o _ (by omega) (by omega) (by omega)).trans f1.2.1, (o _ (by omega) (by omega) (by omega)).trans f1.2.2.1, (o _ (by omega) (by omega) (by omega)).trans f1.2.2.2⟩, ?_⟩
    unfold bR at f2 ⊢
    rw [o _ (by omega) (by omega) (by omega), o _ (by omega) (by omega) (by omega), o _ (by omega) (by omega) (by omega)]
    exact f2
  · have e7 : apR (upd D 7 1) 0 R 7 = 1 := (apR_lo R _ 0 7 (by omega) (by omega)).trans upd_eq
    have e8 : apR (upd D 7 1) 0 R 8 = nI R.length := (apR_8 R _ 0 ((upd_nz (by omega)).trans (h8.trans nI_0.symm))).trans (by rw [Nat.zero_add])
    refine Or.inr ⟨by rw [e7]; decide, L, R, hG, rfl, fun j hj => ?_, e8, hR, fun j hj => ?_⟩
    · have := apL_at L st 0 j hj
      rwa [Nat.zero_add] at this
    · have := apR_at R (upd D 7 1) 0 j hj
      rwa [Nat.zero_add] at this
end DJ1
def cE (c c' : HP) (k kS : Nat) : Prop := fr (hN c.1) c.1 c'.1 ∧ frT (hN c.1) c.2.1 c'.2.1 ∧ hN c.1 ≤ hN c'.1 ∧ hN c'.1 ≤ hN c.1 + k ∧ hS c'.1 ≤ hS c.1 + kS ∧ hX c'.1 = hX c.1 ∧ (∀ i, hN c'.1 ≤ i → c'.2.1 i = false) ∧ c'.2.2.2 = c.2.2.2
theorem cE_id {c : HP} {k kS : Nat} (hT : ∀ i, hN c.1 ≤ i → c.2.1 i = false) : cE c c k kS := ⟨fr_id, fun _ _ => rfl, Nat.le_refl _, by omega, by omega, rfl, hT, rfl⟩
theorem cE_le {c c' : HP} {k k' l l' : Nat} (h : cE c c' k l) (h1 : k ≤ k') (h2 : l ≤ l') : cE c c' k' l' := by
  obtain ⟨a1, a2, a3, a4, a5, a6, a7, a8⟩ := h
  exact ⟨a1, a2, a3, by omega, by omega, a6, a7, a8⟩
theorem cE_tr {c c' c'' : HP} {k k' l l' : Nat} (h : cE c c' k l) (h' : cE c' c'' k' l') : cE c c'' (k + k') (l + l') := by
  obtain ⟨a1, a2, a3, a4, a5, a6, a7, a8⟩ := h
  obtain ⟨b1, b2, b3, b4, b5, b6, b7, b8⟩ := h'
  exact ⟨fr_tr a1 b1 a3, fun i hi => (b2 i (by omega)).trans (a2 i hi), by omega, by omega, by omega, b6.trans a6, b7, b8.trans a8⟩
theorem tC_cE {c : HP} {n : Nat} {pg : Nat → Int32} (hT : ∀ i, hN c.1 ≤ i → c.2.1 i = false) (hn : n ≤ 700) : cE c (tC c n pg) 3 713 := by
  refine ⟨hT3_fr, frT_add (by omega), ?_, ?_, ?_, rfl, fun i hi => ?_, rfl⟩
  · show hN c.1 ≤ hN c.1 + 3
    omega
  · show hN c.1 + 3 ≤ hN c.1 + 3
    omega
  · show hS (hT3 c.1 n pg) ≤ _
    rw [hT3_S]
    omega
  · have hi : hN c.1 + 3 ≤ i := hi
    show tAdd c.2.1 (hN c.1 + 2) i = false
    unfold tAdd
    rw [hT i (by omega), decide_eq_false (by omega)]
    rfl
/-- the class stands where a setup is being read -/
def cG (c : HP) (s t n : Nat) (pg : Nat → Int32) : Prop := SBc c.1 c.2.1 s ∧ HTp c.1 c.2.1 t n pg ∧ s + 8 ≤ t ∧ t + 3 ≤ hN c.1 ∧ 156 ≤ s ∧ c.2.2.2.2.2.2 13 = s ∧ (∀ i, hN c.1 ≤ i → c.2.1 i = false)
theorem tC_cG {c : HP} {s t n n' : Nat} {pg pg' : Nat → Int32} (h : cG c s t n pg) (hn : n' ≤ 700) : cG (tC c n' pg') s (hN c.1) n' pg' := by
  obtain ⟨a1, a2, a3, a4, a5, a6, a7⟩ := h
  have e := tC_cE (pg := pg') a7 hn
  refine ⟨SBc_fr e.1 e.2.1 a1 (by omega), hT3_HT (by omega) a7 hn, by omega, Nat.le_refl _, a5, a6, e.2.2.2.2.2.2.1⟩
def kq (hs : Int32) : Nat := if hs = 0 then 3 else 0
def kS (hs : Int32) : Nat := if hs = 0 then 713 else 0
section ST1
variable {c c2 : HP} {g : Nat → Int32} {n : Nat} {ec ob ud : Int32}
/-- a statement but for its semicolon -/
theorem j_stmt (hv : bV (cB c) g n) (hg : rB c2 = g) (hn : n ≤ 700) {s t nn x nz i sc : Nat} {q pg st D : Nat → Int32} {a : Nat → Nat → Int32} {hs sn nu : Int32} {l2 : Option Value} (hc : cG c s t nn pg) (hD : DJ q a nn pg D hs sn nz) (hx : x ≤ n) (hp : skT g n x < n) :
    (∃ c' t' q' a' nn' pg' D' hs' sn' nz' nu' sc' st' x', cE c c' (kq hs) (kS hs) ∧ (cE c c' 0 0 ∧ hs' = hs ∨ hs' = 1) ∧ cG c' s t' nn' pg' ∧ DJ q' a' nn' pg' D' hs' sn' nz' ∧ x < x' ∧ x' ≤ n ∧
      (∀ d K, Ev (d + 21) 36 17 [some (.ref 13), some (.int (nI i)), l2] [] (cH (zC c s q a t) (rd g n (skT g n x) nu ec hs sc) st) K = Ev (d + 21) 36 78 [some (.ref 13), some (.int (nI i)), l2] [.int 1] (cH (zC c' s q' a' t') (rd g n (skT g n x') nu' ec hs' sc') st') K) ∧
      (∃ w : Int32, ∀ d K, EvM (d + 20) 113 [.ref 140] (rH c2 (rm n x 0 ob ud sn) D) K = Ev (d + 20) 113 80 [some (.ref 140), some (.int w)] [] (rH c2 (rm n x' 0 ob ud sn') D') K)) ∨
    (∃ c' q' a' t' r' st' m' D', cE c c' (kq hs) (kS hs) ∧ eEq r' m' ob ud ∧
      (∀ d K, Ev (d + 21) 36 17 [some (.ref 13), some (.int (nI i)), l2] [] (cH (zC c s q a t) (rd g n (skT g n x) nu ec hs sc) st) K = Ev (d + 21) 36 78 [some (.ref 13), some (.int (nI i)), l2] [.int 0] (cH (zC c' s q' a' t') r' st') K) ∧
      (∀ d K, EvM (d + 20) 113 [.ref 140] (rH c2 (rm n x 0 ob ud sn) D) K = K (.inl none) (rH c2 m' D'))) := by
  have hD0 := hD
  obtain ⟨⟨d1, d2, d3⟩, -, -, -, -, -, -, dh⟩ := hD0
  have hc0 := hc
  obtain ⟨g1, g2, g3, g4, g5, g6, g7⟩ := hc0
  have hsk := skT_le (g := g) hx
  have hid := skT_id (g := g) hx
  have hvz : ∀ q a t, bV (cB (zC c s q a t)) g n := fun _ _ _ => hv
  have h16 : (1 : Nat) < 6 := by omega
  have h26 : (2 : Nat) < 6 := by omega
  have h36 : (3 : Nat) < 6 := by omega
  have tw1 := fun {d K} => r_takeWord (d := d) (K := K) (c := c2) (D := D) (dp := 0) (ob := ob) (ud := ud) (sn := sn) h16 hg hn hsk.2
  have tw2 := fun {d K} => r_takeWord (d := d) (K := K) (c := c2) (D := D) (dp := 0) (ob := ob) (ud := ud) (sn := sn) h26 hg hn hsk.2
  have tw3 := fun {d K} => r_takeWord (d := d) (K := K) (c := c2) (D := D) (dp := 0) (ob := ob) (ud := ud) (sn := sn) h36 hg hn hsk.2
  simp only [hid] at tw1 tw2 tw3
  have cw1 := fun {d K nu hs sc st} => c_wordIs (c := zC c s q a t) (d := d) (K := K) (nu := nu) (ec := ec) (hs := hs) (sc := sc) (st := st) h16 (hvz q a t) hn hsk.2
  have cw2 := fun {d K nu hs sc st} => c_wordIs (c := zC c s q a t) (d := d) (K := K) (nu := nu) (ec := ec) (hs := hs) (sc := sc) (st := st) h26 (hvz q a t) hn hsk.2
  have cw3 := fun {d K nu hs sc st} => c_wordIs (c := zC c s q a t) (d := d) (K := K) (nu := nu) (ec := ec) (hs := hs) (sc := sc) (st := st) h36 (hvz q a t) hn hsk.2
  have wl : ∀ k, k < 6 → wdB g n (skT g n x) k = true → skT g n x + lenJ.getD k 0 ≤ n ∧ x < skT g n x + lenJ.getD k 0 ∧ nxT g n (skT g n x) = skT g n (skT g n x + lenJ.getD k 0) := fun k hk6 hw => by
    have h1 := (wdB_lt hw).2
    have h2 := teT_le (g := g) hsk.2
    have h3 := lenJ_le k hk6
    refine ⟨by omega, by omega, ?_⟩
    unfold nxT
    rw [h1]
  by_cases w1 : wdB g n (skT g n x) 1 = true
  · obtain ⟨y1, y2, y3⟩ := wl 1 h16 w1
    rcases j_zone (t := t) (dp := 0) (sc := sc) (q := q) (st := st) (D := D) (a := a) (nu := nu) (ec := ec) (hs' := hs) (ob := ob) (ud := ud) (sn := sn) hv hg hn g1 g6 hsk.2 y1 y3 d2 d1 d3 with ⟨v1, v2, v3, v4, v5, x', e1, e2, e3, ⟨u1, u2, u3, u4, u5⟩, kC, kR⟩ | ⟨r', m', a', e1, kC, kR⟩
    · refine Or.inl ⟨c, t, upf q 0 (nI (nz + 1)), zW a nz v1 v2 v3 v4 v5, nn, pg, zD D nz v1 v2 v3 v4 v5, hs, sn, nz + 1, v5, sc, st, x', cE_id g7, Or.inl ⟨cE_id g7, rfl⟩, hc, DJ_zone hD e1 u1 u2 u3, by omega, e3, fun d K => ?_, nI (skT g n x), fun d K => ?_⟩
      · simp only [i36_17, i36_18, i36_20, i36_23, i36_26, i36_27, i36_30, i36_33, i36_34, i36_36, i36_39, i36_42, i36_43, i36_46, i36_49, i36_50, i36_52, i36_55, i36_58, i36_59, i36_62, i36_65, i36_66, i36_69, i36_72, i36_73, i36_75, nl_i, nl_r, nl_0, nl_j, nb0, nb1, nbI, orv_s, konN_v, konN_n, konN_e, true_and, and_true, and_self, if_true, if_false, ite_true, ite_false, isR_ref, true_or, or_true, bI_T, bI_F, bI_Fb, i1z, Bool.false_eq_true, c_k, cw1, w1, kC]
      · simp only [i113_0, i113_1, i113_4, i113_5, i113_6, i113_9, i113_10, i113_11, i113_13, i113_16, i113_19, i113_20, i113_21, i113_24, i113_27, i113_28, i113_30, i113_33, i113_36, i113_37, i113_40, i113_43, i113_44, i113_46, i113_49, i113_52, i113_53, i113_54, i113_55, i113_58, i113_59, i113_62, i113_64, i113_65, i113_66, i113_67, i113_70, i113_73, i113_74, i113_76, i113_77, in113, nl_i, nl_r, nl_0, nl_j, nb0, nb1, nbI, orv_s, konN_v, konN_n, konN_e, true_and, and_true, and_self, if_true, if_false, ite_true, ite_false, isR_ref, true_or, or_true, bI_T, bI_F, bI_Fb, i1z, Bool.false_eq_true, r_k, r_next hg hn hx, r_f4, rm_4, tw1, w1, kR]
    · refine Or.inr ⟨c, q, a', t, r', st, m', D, cE_id g7, e1, fun d K => ?_, fun d K => ?_⟩
      · simp only [i36_17, i36_18, i36_20, i36_23, i36_26, i36_27, i36_30, i36_33, i36_34, i36_36, i36_39, i36_42, i36_43, i36_46, i36_49, i36_50, i36_52, i36_55, i36_58, i36_59, i36_62, i36_65, i36_66, i36_69, i36_72, i36_73, i36_75, nl_i, nl_r, nl_0, nl_j, nb0, nb1, nbI, orv_s, konN_v, konN_n, konN_e, true_and, and_true, and_self, if_true, if_false, ite_true, ite_false, isR_ref, true_or, or_true, bI_T, bI_F, bI_Fb, i1z, Bool.false_eq_true, c_k, cw1, w1, kC]
      · simp only [i113_0, i113_1, i113_4, i113_5, i113_6, i113_9, i113_10, i113_11, i113_13, i113_16, i113_19, i113_20, i113_21, i113_24, i113_27, i113_28, i113_30, i113_33, i113_36, i113_37, i113_40, i113_43, i113_44, i113_46, i113_49, i113_52, i113_53, i113_54, i113_55, i113_58, i113_59, i113_62, i113_64, i113_65, i113_66, i113_67, i113_70, i113_73, i113_74, i113_76, i113_77, i113_80, i113_81, i113_83, i113_86, in113, nl_i, nl_r, nl_0, nl_j, nb0, nb1, nbI, orv_s, konN_v, konN_n, konN_e, true_and, and_true, and_self, if_true, if_false, ite_true, ite_false, isR_ref, true_or, or_true, bI_T, bI_F, bI_Fb, i1z, Bool.false_eq_true, r_k, r_next hg hn hx, r_f4, rm_4, tw1, w1, kR, r_expectB e1.1]
  · have w1f : wdB g n (skT g n x) 1 = false := Bool.eq_false_iff.mpr w1
    by_cases w2 : wdB g n (skT g n x) 2 = true
    · obtain ⟨y1, y2, y3⟩ := wl 2 h26 w2
      rcases j_band (t := t) (dp := 0) (sc := sc) (q := q) (st := st) (D := D) (a := a) (nu := nu) (ec := ec) (hs' := hs) (ob := ob) (ud := ud) (sn := sn) hv hg hn g1 g6 hsk.2 y1 y3 with ⟨k, v1, v2, nu', x', e1, e2, e3, ⟨u1, u2⟩, kC, kR⟩ | ⟨r', m', e1, kC, kR⟩
      · refine Or.inl ⟨c, t, q, bW a k v1 v2, nn, pg, bD D k v1 v2, hs, sn, nz, nu', sc, st, x', cE_id g7, Or.inl ⟨cE_id g7, rfl⟩, hc, DJ_band hD e1 u1 u2, by omega, e3, fun d K => ?_, nI (skT g n x), fun d K => ?_⟩
        · simp only [i36_17, i36_18, i36_20, i36_23, i36_26, i36_27, i36_30, i36_33, i36_34, i36_36, i36_39, i36_42, i36_43, i36_46, i36_49, i36_50, i36_52, i36_55, i36_58, i36_59, i36_62, i36_65, i36_66, i36_69, i36_72, i36_73, i36_75, nl_i, nl_r, nl_0, nl_j, nb0, nb1, nbI, orv_s, konN_v, konN_n, konN_e, true_and, and_true, and_self, if_true, if_false, ite_true, ite_false, isR_ref, true_or, or_true, bI_T, bI_F, bI_Fb, i1z, Bool.false_eq_true, c_k, cw1, w1f, cw2, w2, kC]
        · simp only [i113_0, i113_1, i113_4, i113_5, i113_6, i113_9, i113_10, i113_11, i113_13, i113_16, i113_19, i113_20, i113_21, i113_24, i113_27, i113_28, i113_30, i113_33, i113_36, i113_37, i113_40, i113_43, i113_44, i113_46, i113_49, i113_52, i113_53, i113_54, i113_55, i113_58, i113_59, i113_62, i113_64, i113_65, i113_66, i113_67, i113_70, i113_73, i113_74, i113_76, i113_77, in113, nl_i, nl_r, nl_0, nl_j, nb0, nb1, nbI, orv_s, konN_v, konN_n, konN_e, true_and, and_true, and_self, if_true, if_false, ite_true, ite_false, isR_ref, true_or, or_true, bI_T, bI_F, bI_Fb, i1z, Bool.false_eq_true, r_k, r_next hg hn hx, r_f4, rm_4, tw1, w1f, tw2, w2, kR]
      · refine Or.inr ⟨c, q, a, t, r', st, m', D, cE_id g7, e1, fun d K => ?_, fun d K => ?_⟩
        · simp only [i36_17, i36_18, i36_20, i36_23, i36_26, i36_27, i36_30, i36_33, i36_34, i36_36, i36_39, i36_42, i36_43, i36_46, i36_49, i36_50, i36_52, i36_55, i36_58, i36_59, i36_62, i36_65, i36_66, i36_69, i36_72, i36_73, i36_75, nl_i, nl_r, nl_0, nl_j, nb0, nb1, nbI, orv_s, konN_v, konN_n, konN_e, true_and, and_true, and_self, if_true, if_false, ite_true, ite_false, isR_ref, true_or, or_true, bI_T, bI_F, bI_Fb, i1z, Bool.false_eq_true, c_k, cw1, w1f, cw2, w2, kC]
        · simp only [i113_0, i113_1, i113_4, i113_5, i113_6, i113_9, i113_10, i113_11, i113_13, i113_16, i113_19, i113_20, i113_21, i113_24, i113_27, i113_28, i113_30, i113_33, i113_36, i113_37, i113_40, i113_43, i113_44, i113_46, i113_49, i113_52, i113_53, i113_54, i113_55, i113_58, i113_59, i113_62, i113_64, i113_65, i113_66, i113_67, i113_70, i113_73, i113_74, i113_76, i113_77, i113_80, i113_81, i113_83, i113_86, in113, nl_i, nl_r, nl_0, nl_j, nb0, nb1, nbI, orv_s, konN_v, konN_n, konN_e, true_and, and_true, and_self, if_true, if_false, ite_true, ite_false, isR_ref, true_or, or_true, bI_T, bI_F, bI_Fb, i1z, Bool.false_eq_true, r_k, r_next hg hn hx, r_f4, rm_4, tw1, w1f, tw2, w2, kR, r_expectB e1.1]
    · have w2f : wdB g n (skT g n x) 2 = false := Bool.eq_false_iff.mpr w2
      have b7 : inb 7 1451 = True := eq_true (by decide)
      have zn7 : Int32.toNatClampNeg 7 = 7 := by decide
      by_cases w3 : wdB g n (skT g n x) 3 = true
      · obtain ⟨y1, y2, y3⟩ := wl 3 h36 w3
        rcases dh with ⟨rfl, rfl, d8⟩ | ⟨rfl, rfl⟩
        · have on0 : ∀ {d K w}, EvM (d + 1) 110 [.ref 140, .int 0, .int w] (rH c2 (rm n (skT g n x + lenJ.getD 3 0) 0 ob ud 0) D) K = K (.inl none) (rH c2 (rm n (skT g n x + lenJ.getD 3 0) 0 ob ud 1) D) := fun {d K w} => by
            simp only [in110, i110_0, i110_1, i110_4, i110_5, i110_6, i110_7, i110_8, i110_9, i110_12, i110_13, i110_15, i110_16, i110_19, i110_20, i110_21, i110_24, i110_25, i110_26, i110_27, i110_28, i110_31, nl_i, nl_r, nl_0, nl_j, nb0, nb1, nbI, orv_s, konN_v, konN_n, konN_e, true_and, and_true, and_self, if_true, if_false, ite_true, ite_false, isR_ref, true_or, or_true, bI_T, bI_F, bI_Fb, i1z, Bool.false_eq_true, r_k, r_f14, rm_14, r_w14, rm_u14, show (((0 : Int32) >>> ((0 : Int32) &&& 31) &&& 1) = 1) = False from eq_false (by decide), show ((0 : Int32) ||| 1 <<< ((0 : Int32) &&& 31)) = 1 by decide]
          rcases j_heat (t := t) (sc := sc) (q := q) (st := st) (D := upd D 7 1) (a := a) (nu := nu) (ec := ec) (ob := ob) (ud := ud) hv hg hn g1 g6 (by omega) g5 g7 hsk.2 y1 (by omega) y3 ((upd_nz (by omega)).trans d8) with ⟨L, R, nu', x', e1, e2, e3, e4, e5, kC, kR⟩ | ⟨r', m', st', D', e1, kC, kR⟩
          · have q1 := tC_cE (c := c) (pg := apL st 0 L) g7 e4
            refine Or.inl ⟨tC c L.length (apL st 0 L), hN c.1, q, a, L.length, apL st 0 L, apR (upd D 7 1) 0 R, 1, 1, nz, nu', L.length, apL st 0 L, x', q1, Or.inr rfl, tC_cG hc e4, DJ_heat hD d8 e3 e5, by omega, e2, fun d K => ?_, nI (skT g n x), fun d K => ?_⟩
            · simp only [i36_17, i36_18, i36_20, i36_23, i36_26, i36_27, i36_30, i36_33, i36_34, i36_36, i36_39, i36_42, i36_43, i36_46, i36_49, i36_50, i36_52, i36_55, i36_58, i36_59, i36_62, i36_65, i36_66, i36_69, i36_72, i36_73, i36_75, nl_i, nl_r, nl_0, nl_j, nb0, nb1, nbI, orv_s, konN_v, konN_n, konN_e, true_and, and_true, and_self, if_true, if_false, ite_true, ite_false, isR_ref, true_or, or_true, bI_T, bI_F, bI_Fb, i1z, Bool.false_eq_true, c_k, cw1, w1f, cw2, w2f, cw3, w3, c_f10, rd_10, kC]
            · simp only [i113_0, i113_1, i113_4, i113_5, i113_6, i113_9, i113_10, i113_11, i113_13, i113_16, i113_19, i113_20, i113_21, i113_24, i113_27, i113_28, i113_30, i113_33, i113_36, i113_37, i113_40, i113_43, i113_44, i113_46, i113_49, i113_52, i113_53, i113_54, i113_55, i113_58, i113_59, i113_62, i113_64, i113_65, i113_66, i113_67, i113_70, i113_73, i113_74, i113_76, i113_77, in113, nl_i, nl_r, nl_0, nl_j, nb0, nb1, nbI, orv_s, konN_v, konN_n, konN_e, true_and, and_true, and_self, if_true, if_false, ite_true, ite_false, isR_ref, true_or, or_true, bI_T, bI_F, bI_Fb, i1z, Bool.false_eq_true, r_k, r_next hg hn hx, r_f4, rm_4, tw1, w1f, tw2, w2f, tw3, w3, on0, r_f9, r_k3, r_l3, r_a3, r_wa3, b7, zn7, kR]
          · refine Or.inr ⟨c, q, a, t, r', st', m', D', cE_id g7, e1, fun d K => ?_, fun d K => ?_⟩
            · simp only [i36_17, i36_18, i36_20, i36_23, i36_26, i36_27, i36_30, i36_33, i36_34, i36_36, i36_39, i36_42, i36_43, i36_46, i36_49, i36_50, i36_52, i36_55, i36_58, i36_59, i36_62, i36_65, i36_66, i36_69, i36_72, i36_73, i36_75, nl_i, nl_r, nl_0, nl_j, nb0, nb1, nbI, orv_s, konN_v, konN_n, konN_e, true_and, and_true, and_self, if_true, if_false, ite_true, ite_false, isR_ref, true_or, or_true, bI_T, bI_F, bI_Fb, i1z, Bool.false_eq_true, c_k, cw1, w1f, cw2, w2f, cw3, w3, c_f10, rd_10, kC]
            · simp only [i113_0, i113_1, i113_4, i113_5, i113_6, i113_9, i113_10, i113_11, i113_13, i113_16, i113_19, i113_20, i113_21, i113_24, i113_27, i113_28, i113_30, i113_33, i113_36, i113_37, i113_40, i113_43, i113_44, i113_46, i113_49, i113_52, i113_53, i113_54, i113_55, i113_58, i113_59, i113_62, i113_64, i113_65, i113_66, i113_67, i113_70, i113_73, i113_74, i113_76, i113_77, i113_80, i113_81, i113_83, i113_86, in113, nl_i, nl_r, nl_0, nl_j, nb0, nb1, nbI, orv_s, konN_v, konN_n, konN_e, true_and, and_true, and_self, if_true, if_false, ite_true, ite_false, isR_ref, true_or, or_true, bI_T, bI_F, bI_Fb, i1z, Bool.false_eq_true, r_k, r_next hg hn hx, r_f4, rm_4, tw1, w1f, tw2, w2f, tw3, w3, on0, r_f9, r_k3, r_l3, r_a3, r_wa3, b7, zn7, kR, r_expectB e1.1]
        · have on1 : ∀ {d K w}, EvM (d + 1) 110 [.ref 140, .int 0, .int w] (rH c2 (rm n (skT g n x + lenJ.getD 3 0) 0 ob ud 1) D) K = K (.inl none) (rH c2 (upf (upf (upf (rm n (skT g n x + lenJ.getD 3 0) 0 ob ud 1) 5 (-2)) 6 w) 14 1) D) := fun {d K w} => by
            have r14 : (upf (upf (rm n (skT g n x + lenJ.getD 3 0) 0 ob ud 1) 5 (-2)) 6 w) 14 = 1 := rfl
            simp only [in110, i110_0, i110_1, i110_4, i110_5, i110_6, i110_7, i110_8, i110_9, i110_12, i110_13, i110_15, i110_16, i110_19, i110_20, i110_21, i110_24, i110_25, i110_26, i110_27, i110_28, i110_31, nl_i, nl_r, nl_0, nl_j, nb0, nb1, nbI, orv_s, konN_v, konN_n, konN_e, true_and, and_true, and_self, if_true, if_false, ite_true, ite_false, isR_ref, true_or, or_true, bI_T, bI_F, bI_Fb, i1z, Bool.false_eq_true, r_k, r_f14, rm_14, r_w14, r_report rm_5, r14, show (((1 : Int32) >>> ((0 : Int32) &&& 31) &&& 1) = 1) = True from eq_true (by decide), show ((1 : Int32) ||| 1 <<< ((0 : Int32) &&& 31)) = 1 by decide]
          have h5 : ¬ (upf (upf (upf (rm n (skT g n x + lenJ.getD 3 0) 0 ob ud 1) 5 (-2)) 6 (nI (skT g n x))) 14 1) 5 = 0 := (by decide : ¬ (-2 : Int32) = 0)
          refine Or.inr ⟨c, q, a, t, upf (upf (rd g n (skT g n x) nu ec 1 sc) 7 (-2)) 8 (nI (skT g n x)), st, upf (upf (upf (rm n (skT g n x + lenJ.getD 3 0) 0 ob ud 1) 5 (-2)) 6 (nI (skT g n x))) 14 1, upd D 7 1, cE_id g7, ⟨(by decide : ¬ (-2 : Int32) = 0), rfl, rfl, rfl, rfl, rfl, rfl, rfl⟩, fun d K => ?_, fun d K => ?_⟩
          · simp only [i36_17, i36_18, i36_20, i36_23, i36_26, i36_27, i36_30, i36_33, i36_34, i36_36, i36_39, i36_42, i36_43, i36_46, i36_49, i36_50, i36_52, i36_55, i36_58, i36_59, i36_62, i36_65, i36_66, i36_69, i36_72, i36_73, i36_75, nl_i, nl_r, nl_0, nl_j, nb0, nb1, nbI, orv_s, konN_v, konN_n, konN_e, true_and, and_true, and_self, if_true, if_false, ite_true, ite_false, isR_ref, true_or, or_true, bI_T, bI_F, bI_Fb, i1z, Bool.false_eq_true, c_k, cw1, w1f, cw2, w2f, cw3, w3, c_f10, rd_10, c_fail, rd_4]
          · simp only [i113_0, i113_1, i113_4, i113_5, i113_6, i113_9, i113_10, i113_11, i113_13, i113_16, i113_19, i113_20, i113_21, i113_24, i113_27, i113_28, i113_30, i113_33, i113_36, i113_37, i113_40, i113_43, i113_44, i113_46, i113_49, i113_52, i113_53, i113_54, i113_55, i113_58, i113_59, i113_62, i113_64, i113_65, i113_66, i113_67, i113_70, i113_73, i113_74, i113_76, i113_77, i113_80, i113_81, i113_83, i113_86, in113, nl_i, nl_r, nl_0, nl_j, nb0, nb1, nbI, orv_s, konN_v, konN_n, konN_e, true_and, and_true, and_self, if_true, if_false, ite_true, ite_false, isR_ref, true_or, or_true, bI_T, bI_F, bI_Fb, i1z, Bool.false_eq_true, r_k, r_next hg hn hx, r_f4, rm_4, tw1, w1f, tw2, w2f, tw3, w3, on1, r_f9, r_k3, r_l3, r_a3, r_wa3, b7, zn7, sumB h5, r_expectB h5]
      · have w3f : wdB g n (skT g n x) 3 = false := Bool.eq_false_iff.mpr w3
        have h5 : ¬ (upf (upf (rm n (skT g n x) 0 ob ud sn) 5 (-2)) 6 (nI (skT g n x))) 5 = 0 := (by decide : ¬ (-2 : Int32) = 0)
        refine Or.inr ⟨c, q, a, t, upf (upf (rd g n (skT g n x) nu ec hs sc) 7 (-2)) 8 (nI (skT g n x)), st, upf (upf (rm n (skT g n x) 0 ob ud sn) 5 (-2)) 6 (nI (skT g n x)), D, cE_id g7, eE1 (by decide), fun d K => ?_, fun d K => ?_⟩
        · simp only [i36_17, i36_18, i36_20, i36_23, i36_26, i36_27, i36_30, i36_33, i36_34, i36_36, i36_39, i36_42, i36_43, i36_46, i36_49, i36_50, i36_52, i36_55, i36_58, i36_59, i36_62, i36_65, i36_66, i36_69, i36_72, i36_73, i36_75, nl_i, nl_r, nl_0, nl_j, nb0, nb1, nbI, orv_s, konN_v, konN_n, konN_e, true_and, and_true, and_self, if_true, if_false, ite_true, ite_false, isR_ref, true_or, or_true, bI_T, bI_F, bI_Fb, i1z, Bool.false_eq_true, c_k, cw1, w1f, cw2, w2f, cw3, w3f, c_fail, rd_4]
        · simp only [i113_0, i113_1, i113_4, i113_5, i113_6, i113_9, i113_10, i113_11, i113_13, i113_16, i113_19, i113_20, i113_21, i113_24, i113_27, i113_28, i113_30, i113_33, i113_36, i113_37, i113_40, i113_43, i113_44, i113_46, i113_49, i113_52, i113_53, i113_54, i113_55, i113_58, i113_59, i113_62, i113_64, i113_65, i113_66, i113_67, i113_70, i113_73, i113_74, i113_76, i113_77, i113_80, i113_81, i113_83, i113_86, in113, nl_i, nl_r, nl_0, nl_j, nb0, nb1, nbI, orv_s, konN_v, konN_n, konN_e, true_and, and_true, and_self, if_true, if_false, ite_true, ite_false, isR_ref, true_or, or_true, bI_T, bI_F, bI_Fb, i1z, Bool.false_eq_true, r_k, r_next hg hn hx, r_f4, rm_4, tw1, w1f, tw2, w2f, tw3, w3f, r_report rm_5, r_expectB h5]
end ST1
