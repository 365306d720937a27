/-! THE START: the heap at the loop in its form, class and reference alike -/
def T0 (i : Nat) : Bool := i == 12
def S0 (i k : Nat) : Int32 := if ((i == 13 && k == 8) || ((i == 140 && k == 7) || (isLine i && k == 3))) = true then -1 else 0
def G0 (i : Nat) : Nat := if i = 13 then 16 else 1
def isObj (i : Nat) : Bool := i == 0 || (i == 13 || (i == 50 || (i == 140 || isLine i)))
def clsO (i : Nat) : Nat := if i = 0 then 5 else if i = 13 then 4 else if i = 50 then 1 else if i = 140 then 6 else if isLine i = true then 2 else 0
theorem ck_k : ∀ i, i < 156 → own i = true → lq (pqK i) lx17 0 (0, 0) = okl i := by decide +kernel
theorem ck_f : ∀ i, i < 156 → isObj i = true → ∀ k, k < 16 → lq (pqF i k) lx17 0 .null = oF1 S0 G0 i k := by decide +kernel
theorem ck_c : ∀ i, i < 156 → own i = true → lq (pqC i) lx17 0 0 = clsO i := by decide +kernel
theorem ck_a : ∀ i, i < 156 → own i = true → lq (pqA i) lx17 0 0 = 0 := by decide +kernel
theorem ck_t : ∀ i, i < 156 → own i = true → ¬ i = 51 → ¬ i = 145 → lq (pqT i) lx17 0 false = false := by decide +kernel
theorem ck_51 : ∀ j, j < 8 → lq (pqR 51 j) lx17 0 none = some (52 + 11 * j) := by decide +kernel
theorem ck_145 : ∀ j, j < 8 → lq (pqR 145 j) lx17 0 none = some (146 + j) := by decide +kernel
theorem ck_w : ∀ o ∈ lx17, o.1 = 2 → isObj o.2.1 = true ∨ o.2.1 < 13 ∨ (16 ≤ o.2.1 ∧ o.2.1 < 28) := by decide +kernel
theorem ck_w2 : ∀ o ∈ lx17, o.1 = 2 → o.2.2.1 < 16 := by decide +kernel
theorem ck_w3 : ∀ o ∈ lx17, (o.1 = 3 → o.2.2.1 < 8) ∧ (o.1 = 4 → o.2.1 ≤ 8) := by decide +kernel
theorem own_lt {i : Nat} (h : own i = true) : i < 156 ∧ (i = 0 ∨ (13 ≤ i ∧ i ≤ 15) ∨ 28 ≤ i) := by
  unfold own at h
  simp only [Bool.or_eq_true, Bool.and_eq_true, beq_iff_eq, decide_eq_true_eq] at h
  omega
section FQ
variable {x : Nat × (Nat → Int32)} {i j k : Nat}
theorem fq_far (h16 : 16 ≤ k) (ho : own i = true) : dfl (clsO i) k = oF1 S0 G0 i k := by
  obtain ⟨k, rfl⟩ : ∃ m, k = m + 16 := ⟨k - 16, by omega⟩
  unfold oF1 clsO
  by_cases e0 : i = 0
  · rw [if_pos e0, if_pos e0]
    rfl
  · rw [if_neg e0, if_neg e0]
    by_cases e1 : i = 13
    · rw [if_pos e1, if_pos e1]
      show Value.int 0 = (if k + 16 < 13 then Value.int (S0 13 (k + 16)) else .int 0)
      rw [if_neg (by omega)]
    · rw [if_neg e1, if_neg e1]
      by_cases e2 : i = 50
      · rw [if_pos e2, if_pos e2]
        show Value.int 0 = Value.int (S0 50 (k + 16))
        rfl
      · rw [if_neg e2, if_neg e2]
        by_cases e3 : i = 140
        · rw [if_pos e3, if_pos e3]
          show Value.null = (if k + 16 < 15 then Value.int (S0 140 (k + 16)) else .null)
          rw [if_neg (by omega)]
        · rw [if_neg e3, if_neg e3]
          by_cases e4 : isLine i = true
          · rw [if_pos e4, if_pos e4]
            unfold lnF
            rw [if_neg (by omega), if_neg (by omega), if_neg (by omega)]
            rfl
          · rw [if_neg e4, if_neg e4]
            exact dfl_0
theorem fq_F (ho : own i = true) : lq (pqF i k) lx17 0 .null = oF1 S0 G0 i k := by
  have hlt := own_lt ho
  by_cases hb : isObj i = true
  · by_cases h16 : k < 16
    · exact ck_f i hlt.1 hb k h16
    · have e := lq_far (i := i) (k := k) lx17 0 0 (fun o hm h2 q => by
        have := ck_w2 o hm h2
        omega)
      rw [dfl_0, ck_c i hlt.1 ho] at e
      rw [e, fq_far (by omega) ho]
  · have e := lq_far (i := i) (k := k) lx17 0 0 (fun o hm h2 q => by
      have w := ck_w o hm h2
      obtain ⟨q1, q2⟩ := q
      rw [← q1] at w
      rcases w with w | w | w
      · exact hb w
      · have i0 : ¬ i = 0 := fun z => hb (by rw [z]; rfl)
        omega
      · omega)
    have hc : ¬ i = 0 ∧ ¬ i = 13 ∧ ¬ i = 50 ∧ ¬ i = 140 ∧ ¬ isLine i = true := by
      unfold isObj at hb
      simp only [Bool.or_eq_true, beq_iff_eq, not_or] at hb
      exact hb
    obtain ⟨c0, c1, c2, c3, c4⟩ := hc
    have hz : clsO i = 0 := by
      unfold clsO
      rw [if_neg c0, if_neg c1, if_neg c2, if_neg c3, if_neg c4]
    rw [dfl_0, ck_c i hlt.1 ho, hz, dfl_0] at e
    rw [e]
    unfold oF1
    rw [if_neg c0, if_neg c1, if_neg c2, if_neg c3, if_neg c4]
theorem fq_R (ho : own i = true) : (Pq x lx17).2.2.2.2.2.2.1 i = oR1 i := by
  have hlt := own_lt ho
  funext j
  refine Eq.trans (Pq_R (x := x) (l := lx17) (i := i) (j := j)) ?_
  unfold oR1
  by_cases e1 : i = 51
  · subst e1
    rw [if_pos rfl]
    by_cases hj : j < 8
    · rw [if_pos hj]
      exact ck_51 j hj
    · rw [if_neg hj]
      exact lq_R8 lx17 0 ck_w3 (by omega)
  · rw [if_neg e1]
    by_cases e2 : i = 145
    · subst e2
      rw [if_pos rfl]
      by_cases hj : j < 8
      · rw [if_pos hj]
        exact ck_145 j hj
      · rw [if_neg hj]
        exact lq_R8 lx17 0 ck_w3 (by omega)
    · rw [if_neg e2]
      exact lq_Rn lx17 0 (ck_t i hlt.1 ho e1 e2)
theorem fq_eq : MH (Pq x lx17) T0 (hA (Pq x lx17)) S0 (fun _ _ => 0) (fun _ _ => 0) G0 = Pq x lx17 := by
  unfold MH
  refine ah_ext rfl rfl (fun i => ?_) (fun i k => ?_) (fun i => ?_) (fun i => ?_) (fun i => ?_) rfl
  · show (if own i = true then okl i else (Pq x lx17).2.2.1 i) = (Pq x lx17).2.2.1 i
    split
    · rename_i ho
      exact (Pq_K.trans (ck_k i (own_lt ho).1 ho)).symm
    · rfl
  · show (if own i = true then oF1 S0 G0 i k else (Pq x lx17).2.2.2.1 i k) = (Pq x lx17).2.2.2.1 i k
    split
    · rename_i ho
      exact ((Pq_F (x := x) (l := lx17) (i := i) (k := k)).trans (fq_F ho)).symm
    · rfl
  · show (if own i = true then (fun _ => 0) else if T0 i = true then hA (Pq x lx17) i else hA (Pq x lx17) i) = hA (Pq x lx17) i
    split
    · rename_i ho
      rw [Pq_A, ck_a i (own_lt ho).1 ho]
      rfl
    · split <;> rfl
  · show (if own i = true then (fun _ => 0) else hJ (Pq x lx17) i) = hJ (Pq x lx17) i
    split
    · rw [Pq_J]
    · rfl
  · show (if own i = true then oR1 i else (Pq x lx17).2.2.2.2.2.2.1 i) = (Pq x lx17).2.2.2.2.2.2.1 i
    split
    · rename_i ho
      exact (fq_R ho).symm
    · rfl
theorem sk_1 : ∀ j, j < 8 → (lq (pqK (1 + j)) lx17 0 (0, 0)) = (if j = 0 then (4, 11) else if j ≤ 5 then (10, 6) else (10, 20)) := by decide +kernel
theorem sk_10 : lq (pqK 10) lx17 0 (0, 0) = (1, 2) ∧ lq (pqK 11) lx17 0 (0, 0) = (10, 3) ∧ lq (pqK 12) lx17 0 (0, 0) = (10, 11) := by decide +kernel
theorem sf_1 : (lq (pqF 1 0) lx17 0 .null = .int 0 ∧ lq (pqF 1 1) lx17 0 .null = .int 0 ∧ lq (pqF 1 2) lx17 0 .null = .int 0 ∧ lq (pqF 1 10) lx17 0 .null = .ref 10) ∧ lq (pqF 10 0) lx17 0 .null = .ref 11 ∧ lq (pqF 10 1) lx17 0 .null = .ref 12 := by decide +kernel
theorem sf_j : ∀ j, j < 8 → 1 ≤ j → lq (pqF 1 (j + 2)) lx17 0 .null = .ref (1 + j) := by decide +kernel
theorem sa_j : ∀ j, j < 8 → 1 ≤ j → lq (pqA (1 + j)) lx17 0 0 = (if j ≤ 5 then 0 else 1) := by decide +kernel
theorem sa_11 : lq (pqA 11) lx17 0 0 = 2 := by decide +kernel
theorem fq_SU : SUp (Pq x lx17) T0 1 10 (fun _ => 0) a0 3 usual := by
  refine ⟨by decide +kernel, by decide +kernel, by decide +kernel, ⟨Pq_k.trans (congrArg Prod.fst (sk_1 0 (by omega))), Pq_F.trans sf_1.1.1, Pq_F.trans sf_1.1.2.1, Pq_F.trans sf_1.1.2.2.1, Pq_F.trans sf_1.1.2.2.2⟩, fun j j1 j7 => ⟨Pq_F.trans (sf_j j (by omega) j1), ?_, ?_, ?_⟩, ⟨Pq_k.trans (congrArg Prod.fst sk_10.1), Pq_F.trans sf_1.2.1, Pq_F.trans sf_1.2.2, Pq_k.trans (congrArg Prod.fst sk_10.2.1), Pq_l.trans (congrArg Prod.snd sk_10.2.1), ?_, Pq_k.trans (congrArg Prod.fst sk_10.2.2), Pq_l.trans (congrArg Prod.snd sk_10.2.2)⟩, by decide +kernel, by omega⟩
  · rw [Pq_k, sk_1 j (by omega), if_neg (show ¬ j = 0 by omega)]
    split <;> rfl
  · rw [Pq_l, sk_1 j (by omega), if_neg (show ¬ j = 0 by omega)]
    split <;> rfl
  · rw [Pq_A, sa_j j (by omega) j1]
    unfold a0
    split <;> rfl
  · rw [Pq_A, sa_11]
    rfl
theorem m1_eq : ∀ k, k < 20 → m1row k = -1 := by decide +kernel
theorem fq_N : hN (Pq x lx17) = 156 := Pq_N.trans (by decide +kernel)
theorem fq_S : hS (Pq x lx17) ≤ 30000 := by
  rw [Pq_S]
  decide +kernel
theorem fq_LR : LR (Pq x lx17) T0 (G0 28) (S0 28) (fun _ _ => 0) (fun _ => 0) := by
  rw [show G0 28 = 1 from rfl]
  refine ⟨10, fun _ => 0, a0, 3, usual, 0, 0, fq_SU, ⟨by rw [fq_N]; omega, by rw [fq_N]; omega⟩, ?_, ?_, ?_, 0, by omega, ?_⟩
  · refine ⟨⟨rfl, by omega, rfl⟩, ⟨rfl, rfl, fun z => absurd z (by omega)⟩, fun z hz => absurd hz (by omega), fun k hk => Or.inl ⟨rfl, m1_eq k hk, m1_eq k hk⟩, Or.inl ⟨rfl, rfl, by decide +kernel⟩⟩
  · refine ⟨⟨rfl, by omega, fun _ => rfl⟩, Or.inl ⟨by decide +kernel, by decide +kernel⟩, ⟨fun z hz => absurd hz (by omega), fun z z' hz => absurd hz (by omega)⟩, fun z hz => absurd hz (by omega), fun z hz => absurd hz (by omega), fun k hk => by show (-50 : Int32) ≤ 0 ∧ (0 : Int32) ≤ 50; decide⟩
  · refine ⟨⟨rfl, by decide +kernel, by decide +kernel, Or.inl (by decide +kernel)⟩, fun z hz => absurd hz (by omega), fun z hz => absurd hz (by omega), fun k hk => ⟨rfl, rfl, rfl, rfl⟩⟩
  · exact ⟨by decide +kernel, fun j k j1 j2 hk => ⟨0, Nat.le_refl _, rfl⟩⟩
theorem fq_GR : GR (Pq x lx17) T0 S0 (fun _ _ => 0) G0 := by
  have hT : ∀ i, hN (Pq x lx17) ≤ i → T0 i = false := fun i hi => by
    rw [fq_N] at hi
    show (i == 12) = false
    rw [beq_eq_false_iff_ne]
    omega
  have h156 : 156 ≤ hN (Pq x lx17) := by
    rw [fq_N]
    exact Nat.le_refl _
  have hR : RR S0 (fun _ _ => 0) := ⟨0, Nat.zero_le _, ⟨by decide +kernel, by decide +kernel⟩, by decide +kernel, fun k hk => absurd hk (Nat.not_lt_zero k)⟩
  have hH : HR (Pq x lx17) T0 S0 (fun _ _ => 0) G0 := ⟨0, 0, ⟨by decide, by decide⟩, ⟨by decide +kernel, by decide +kernel, by decide +kernel⟩, fun i hi => absurd hi (Nat.not_lt_zero i)⟩
  have hL : LR (Pq x lx17) T0 (G0 28) (S0 28) (fun _ _ => 0) (fun _ => 0) := fq_LR
  unfold GR
  exact ⟨⟨h156, hT⟩, hL, hR, hH⟩
end FQ
theorem ham {L : Nat} {xs : Nat → Int32} (hL : L ≤ 3072) : ∃ n h', arun n 60 lawI 0 (aent [scrV] 7) [] (h00 (L, xs)) = some (.inl (some (.int 1)), h') ∧ hN h' ≤ 601024 ∧ hS h' ≤ 7293034 := by
  obtain ⟨F, hF⟩ : ∃ F, F = Pq (L, xs) lx17 := ⟨_, rfl⟩
  have s1 : hS F ≤ 30000 := by
    rw [hF]
    exact fq_S
  have n1 : hN F = 156 := by
    rw [hF]
    exact fq_N
  have x1 : hX F = (L, xs) := by
    rw [hF]
    exact Pq_X
  have gr : GR F T0 S0 (fun _ _ => 0) G0 := by
    rw [hF]
    exact fq_GR
  have e : MH F T0 (hA F) S0 (fun _ _ => 0) (fun _ _ => 0) G0 = F := by
    rw [hF]
    exact fq_eq
  have g2 : hN F + 16 * 512 ≤ 601024 := by
    rw [n1]
    exact Nat.le_of_ble_eq_true rfl
  have g3 : hS F + 1000 * 512 ≤ 7293034 := Nat.le_trans (Nat.add_le_add_right s1 _) (Nat.le_of_ble_eq_true rfl)
  have g4 : L < 2 ^ 29 := Nat.lt_of_le_of_lt hL (Nat.le_of_ble_eq_true rfl)
  have g5 : L < 0 + 6 + 6 * 512 := Nat.lt_of_le_of_lt hL (Nat.le_of_ble_eq_true rfl)
  have k := law_loop (L := L) (xs := xs) (B1 := 601024) (B2 := 7293034) (d := 19) g4 512 0 (F, T0, hA F, S0, (fun _ _ => 0), (fun _ _ => 0), G0) none none gr x1 (Nat.zero_le _) g5 g2 g3
  have e2 : mH (F, T0, hA F, S0, (fun _ _ => 0), (fun _ _ => 0), G0) = F := e
  rw [e2, hF] at k
  have k2 := Eq.mpr (law_start (x := (L, xs)) (d := 19)) k
  obtain ⟨n, o, h', q1, q2, b1, b2⟩ := k2
  subst q2
  exact ⟨n, h', q1, b1, b2⟩
theorem whole_start {p : Program} {e : Env} {s : State} {m : MethodId} {below : List Frame} {meth : Method} {c : Code} (l : Launch) (hflags : l.flags = flags0) {b L : Nat} {xs : Nat → Int32} (hL : L ≤ 3072) (C0 : lw_At p s m meth c b L xs) : W p l e room_1 s m #[Value.ref b] below meth c s.heap [] 0 0 (lw_Z below #[Value.ref b] s) (entryFrame m ([Value.ref b] : List Value).toArray 7) := am_top l hflags (ham hL) C0
