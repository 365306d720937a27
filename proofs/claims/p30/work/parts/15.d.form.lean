/-! THE START: the heap at the loop in its form, class and reference alike -/
def T0 (i : Nat) : Bool := i == 12
def S0 (i k : Nat) : Int32 := if ((i == 13 && k == 8) || (isLine i && k == 3)) = true then -1 else 0
def G0 (i : Nat) : Nat := if i = 13 then 16 else 1
def isObj (i : Nat) : Bool := i == 0 || (i == 13 || (i == 50 || isLine i))
def clsO (i : Nat) : Nat := if i = 0 then 5 else if i = 13 then 4 else if i = 50 then 1 else if isLine i = true then 2 else 0
theorem ck_k : ∀ i, i < 140 → own i = true → lq (pqK i) lx14 0 (0, 0) = okl i := by decide +kernel
theorem ck_f : ∀ i, i < 140 → isObj i = true → ∀ k, k < 16 → lq (pqF i k) lx14 0 .null = oF1 S0 G0 i k := by decide +kernel
theorem ck_c : ∀ i, i < 140 → own i = true → lq (pqC i) lx14 0 0 = clsO i := by decide +kernel
theorem ck_a : ∀ i, i < 140 → own i = true → lq (pqA i) lx14 0 0 = 0 := by decide +kernel
theorem ck_t : ∀ i, i < 140 → own i = true → ¬ i = 51 → lq (pqT i) lx14 0 false = false := by decide +kernel
theorem ck_51 : ∀ j, j < 8 → lq (pqR 51 j) lx14 0 none = some (52 + 11 * j) := by decide +kernel
theorem ck_w : ∀ o ∈ lx14, o.1 = 2 → isObj o.2.1 = true ∨ o.2.1 < 13 ∨ (16 ≤ o.2.1 ∧ o.2.1 < 28) := by decide +kernel
theorem ck_w2 : ∀ o ∈ lx14, o.1 = 2 → o.2.2.1 < 16 := by decide +kernel
theorem ck_w3 : ∀ o ∈ lx14, (o.1 = 3 → o.2.2.1 < 8) ∧ (o.1 = 4 → o.2.1 ≤ 8) := by decide +kernel
theorem own_lt2 {i : Nat} (h : own i = true) : i < 140 ∧ (i = 0 ∨ (13 ≤ i ∧ i ≤ 15) ∨ 28 ≤ i) := by
  unfold own at h
  simp only [Bool.or_eq_true, Bool.and_eq_true, beq_iff_eq, decide_eq_true_eq] at h
  omega
section FQ
variable {x : Nat × (Nat × (Nat → Int32))} {i j k : Nat}
theorem fq_far (h16 : 16 ≤ k) (ho : own i = true) : dfl (clsO i) k = oF1 S0 G0 i k := by
  obtain ⟨k, rfl⟩ : ∃ m, k = m + 16 := ⟨k - 16, by omega⟩
  unfold oF1 clsO
  by_cases e0 : i = 0
  · rw [if_pos e0, if_pos e0]
    rfl
  · rw [if_neg e0, if_neg e0]
    by_cases e1 : i = 13
    · rw [if_pos e1, if_pos e1]
      show Value.int 0 = (if k + 16 < 13 then Value.int (S0 13 (k + 16)) else .int 0)
      rw [if_neg (by omega)]
    · rw [if_neg e1, if_neg e1]
      by_cases e2 : i = 50
      · rw [if_pos e2, if_pos e2]
        show Value.int 0 = Value.int (S0 50 (k + 16))
        rfl
      · rw [if_neg e2, if_neg e2]
        by_cases e3 : i = 140
        · have := (own_lt2 ho).1; omega
        · rw [if_neg e3]
          by_cases e4 : isLine i = true
          · rw [if_pos e4, if_pos e4]
            unfold lnF
            rw [if_neg (by omega), if_neg (by omega), if_neg (by omega)]
            rfl
          · rw [if_neg e4, if_neg e4]
            exact dfl_0
theorem fq_F (ho : own i = true) : lq (pqF i k) lx14 0 .null = oF1 S0 G0 i k := by
  have hlt := own_lt2 ho
  by_cases hb : isObj i = true
  · by_cases h16 : k < 16
    · exact ck_f i hlt.1 hb k h16
    · have e := lq_far (i := i) (k := k) lx14 0 0 (fun o hm h2 q => by
        have := ck_w2 o hm h2
        omega)
      rw [dfl_0, ck_c i hlt.1 ho] at e
      rw [e, fq_far (by omega) ho]
  · have e := lq_far (i := i) (k := k) lx14 0 0 (fun o hm h2 q => by
      have w := ck_w o hm h2
      obtain ⟨q1, q2⟩ := q
      rw [← q1] at w
      rcases w with w | w | w
      · exact hb w
      · have i0 : ¬ i = 0 := fun z => hb (by rw [z]; rfl)
        omega
      · omega)
    have c3 : ¬ i = 140 := by omega
    have hc : ¬ i = 0 ∧ ¬ i = 13 ∧ ¬ i = 50 ∧ ¬ isLine i = true := by
      unfold isObj at hb
      simp only [Bool.or_eq_true, beq_iff_eq, not_or] at hb
      exact hb
    obtain ⟨c0, c1, c2, c4⟩ := hc
    have hz : clsO i = 0 := by
      unfold clsO
      rw [if_neg c0, if_neg c1, if_neg c2, if_neg c4]
    rw [dfl_0, ck_c i hlt.1 ho, hz, dfl_0] at e
    rw [e]
    unfold oF1
    rw [if_neg c0, if_neg c1, if_neg c2, if_neg c3, if_neg c4]
theorem fq_R (ho : own i = true) : (Pq x lx14).2.2.2.2.2.2.1 i = oR1 i := by
  have hlt := own_lt2 ho
  funext j
  refine Eq.trans (Pq_R (x := x) (l := lx14) (i := i) (j := j)) ?_
  unfold oR1
  by_cases e1 : i = 51
  · subst e1
    rw [if_pos rfl]
    by_cases hj : j < 8
    · rw [if_pos hj]
      exact ck_51 j hj
    · rw [if_neg hj]
      exact lq_R8 lx14 0 ck_w3 (by omega)
  · rw [if_neg e1]
    have e2 : ¬ i = 145 := by omega
    rw [if_neg e2]
    exact lq_Rn lx14 0 (ck_t i hlt.1 ho e1)
theorem mh_of {F : AH} {T : Nat → Bool} {U S A : Nat → Nat → Int32} {J : Nat → Nat → Int64} {G : Nat → Nat} (h1 : ∀ i, own i = true → F.2.2.1 i = okl i) (h2 : ∀ i k, own i = true → F.2.2.2.1 i k = oF1 S G i k) (h3 : ∀ i, own i = true → F.2.2.2.2.1 i = A i) (h4 : ∀ i, T i = true → U i = F.2.2.2.2.1 i) (h5 : ∀ i, own i = true → F.2.2.2.2.2.1 i = J i) (h6 : ∀ i, own i = true → F.2.2.2.2.2.2.1 i = oR1 i) : MH F T U S A J G = F := by
  refine ah_ext rfl rfl (fun i => ?_) (fun i k => ?_) (fun i => ?_) (fun i => ?_) (fun i => ?_) rfl
  · show (if own i = true then okl i else F.2.2.1 i) = F.2.2.1 i
    split
    · rename_i ho; exact (h1 i ho).symm
    · rfl
  · show (if own i = true then oF1 S G i k else F.2.2.2.1 i k) = F.2.2.2.1 i k
    split
    · rename_i ho; exact (h2 i k ho).symm
    · rfl
  · show (if own i = true then A i else if T i = true then U i else F.2.2.2.2.1 i) = F.2.2.2.2.1 i
    split
    · rename_i ho; exact (h3 i ho).symm
    · split
      · rename_i ht; exact h4 i ht
      · rfl
  · show (if own i = true then J i else F.2.2.2.2.2.1 i) = F.2.2.2.2.2.1 i
    split
    · rename_i ho; exact (h5 i ho).symm
    · rfl
  · show (if own i = true then oR1 i else F.2.2.2.2.2.2.1 i) = F.2.2.2.2.2.2.1 i
    split
    · rename_i ho; exact (h6 i ho).symm
    · rfl
theorem fq_eq : MH (Pq x lx14) T0 (hA (Pq x lx14)) S0 (fun _ _ => 0) (fun _ _ => 0) G0 = Pq x lx14 := by
  have e1 : ∀ i, own i = true → (Pq x lx14).2.2.1 i = okl i := fun i ho => Pq_K.trans (ck_k i (own_lt2 ho).1 ho)
  have e2 : ∀ i k, own i = true → (Pq x lx14).2.2.2.1 i k = oF1 S0 G0 i k := fun i k ho => (Pq_F (x := x) (l := lx14) (i := i) (k := k)).trans (fq_F ho)
  have e3 : ∀ i, own i = true → (Pq x lx14).2.2.2.2.1 i = (fun _ => (0 : Int32)) := fun i ho => (Pq_A (x := x) (l := lx14) (i := i)).trans (by rw [ck_a i (own_lt2 ho).1 ho]; rfl)
  have e5 : ∀ i, own i = true → (Pq x lx14).2.2.2.2.2.1 i = (fun _ => (0 : Int64)) := fun i _ => Pq_J (x := x) (l := lx14) (i := i)
  have e6 : ∀ i, own i = true → (Pq x lx14).2.2.2.2.2.2.1 i = oR1 i := fun i ho => fq_R ho
  generalize Pq x lx14 = F at e1 e2 e3 e5 e6 ⊢
  exact mh_of e1 e2 e3 (fun _ _ => rfl) e5 e6
theorem sk_1 : ∀ j, j < 8 → (lq (pqK (1 + j)) lx14 0 (0, 0)) = (if j = 0 then (4, 11) else if j ≤ 5 then (10, 6) else (10, 20)) := by decide +kernel
theorem sk_10 : lq (pqK 10) lx14 0 (0, 0) = (1, 2) ∧ lq (pqK 11) lx14 0 (0, 0) = (10, 3) ∧ lq (pqK 12) lx14 0 (0, 0) = (10, 11) := by decide +kernel
theorem sf_1 : (lq (pqF 1 0) lx14 0 .null = .int 0 ∧ lq (pqF 1 1) lx14 0 .null = .int 0 ∧ lq (pqF 1 2) lx14 0 .null = .int 0 ∧ lq (pqF 1 10) lx14 0 .null = .ref 10) ∧ lq (pqF 10 0) lx14 0 .null = .ref 11 ∧ lq (pqF 10 1) lx14 0 .null = .ref 12 := by decide +kernel
theorem sf_j : ∀ j, j < 8 → 1 ≤ j → lq (pqF 1 (j + 2)) lx14 0 .null = .ref (1 + j) := by decide +kernel
theorem sa_j : ∀ j, j < 8 → 1 ≤ j → lq (pqA (1 + j)) lx14 0 0 = (if j ≤ 5 then 0 else 1) := by decide +kernel
theorem sa_11 : lq (pqA 11) lx14 0 0 = 2 := by decide +kernel
theorem fq_SU : SUp (Pq x lx14) T0 1 10 (fun _ => 0) a0 3 usual := by
  refine ⟨by decide +kernel, by decide +kernel, by decide +kernel, ⟨Pq_k.trans (congrArg Prod.fst (sk_1 0 (by omega))), Pq_F.trans sf_1.1.1, Pq_F.trans sf_1.1.2.1, Pq_F.trans sf_1.1.2.2.1, Pq_F.trans sf_1.1.2.2.2⟩, fun j j1 j7 => ⟨Pq_F.trans (sf_j j (by omega) j1), ?_, ?_, ?_⟩, ⟨Pq_k.trans (congrArg Prod.fst sk_10.1), Pq_F.trans sf_1.2.1, Pq_F.trans sf_1.2.2, Pq_k.trans (congrArg Prod.fst sk_10.2.1), Pq_l.trans (congrArg Prod.snd sk_10.2.1), ?_, Pq_k.trans (congrArg Prod.fst sk_10.2.2), Pq_l.trans (congrArg Prod.snd sk_10.2.2)⟩, by decide +kernel, by omega⟩
  · rw [Pq_k, sk_1 j (by omega), if_neg (show ¬ j = 0 by omega)]
    split <;> rfl
  · rw [Pq_l, sk_1 j (by omega), if_neg (show ¬ j = 0 by omega)]
    split <;> rfl
  · rw [Pq_A, sa_j j (by omega) j1]
    unfold a0
    split <;> rfl
  · rw [Pq_A, sa_11]
    rfl
theorem m1_eq : ∀ k, k < 20 → m1row k = -1 := by decide +kernel
theorem fq_N : hN (Pq x lx14) = 140 := Pq_N.trans (by decide +kernel)
theorem fq_X : hX (Pq x lx14) = x.2 := Pq_X
theorem fq_S2 : hS (Pq x lx14) ≤ x.1 + 30000 := by
  rw [Pq_S, lq_S]
  have : lq (fun o _ d => pqS o d) lx14 0 0 ≤ 30000 := by decide +kernel
  omega
theorem fq_FX : FX (Pq x lx14) T0 (hA (Pq x lx14)) S0 (fun _ _ => 0) (fun _ _ => 0) G0 := by
  refine ⟨fq_eq.symm, fun i hi => ?_, by rw [fq_N]; omega⟩
  have e : i = 12 := of_decide_eq_true (by simpa [T0] using hi)
  rw [fq_N]
  omega
end FQ
