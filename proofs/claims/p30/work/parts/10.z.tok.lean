/-! READING: what the tokens of a text are -/
/-- from p on, the n bytes g are l -/
def At (g : Nat → Int32) (n p : Nat) (l : List Nat) : Prop := p + l.length = n ∧ ∀ j, j < l.length → g (p + j) = nI (l.getD j 0) ∧ l.getD j 0 < 128
def sk : List Nat → List Nat
  | [] => []
  | x :: l => if x = 32 then sk l else x :: l
theorem dg_c : ∀ c, c < 128 → (isDg (nI c) = true ↔ (48 ≤ c ∧ c ≤ 57)) := by decide +kernel
theorem lt_c : ∀ c, c < 128 → (isLt (nI c) = true ↔ (97 ≤ c ∧ c ≤ 122)) := by decide +kernel
theorem sp_c : ∀ c, c < 128 → (isSp (nI c) = true ↔ c = 32) := by decide +kernel
section TOK
variable {g : Nat → Int32} {n p c m k : Nat} {l w : List Nat}
theorem At.hd (h : At g n p (c :: l)) : g p = nI c ∧ c < 128 ∧ p < n := by
  have := h.2 0 (Nat.succ_pos _)
  refine ⟨this.1, this.2, ?_⟩
  have e := h.1
  rw [List.length_cons] at e
  omega
theorem At.tl (h : At g n p (c :: l)) : At g n (p + 1) l := by
  have e := h.1
  rw [List.length_cons] at e
  refine ⟨by omega, fun j hj => ?_⟩
  have := h.2 (j + 1) (Nat.succ_lt_succ hj)
  rw [show p + 1 + j = p + (j + 1) by omega]
  exact this
theorem At.app : ∀ {w : List Nat} {p : Nat}, At g n p (w ++ l) → At g n (p + w.length) l ∧ ∀ j, j < w.length → g (p + j) = nI (w.getD j 0) ∧ w.getD j 0 < 128
  | [], p, h => ⟨h, fun j hj => absurd hj (Nat.not_lt_zero j)⟩
  | x :: w, p, h => by
    have t := (At.tl h).app
    refine ⟨?_, fun j hj => ?_⟩
    · have := t.1
      rw [List.length_cons, show p + (w.length + 1) = p + 1 + w.length by omega]
      exact this
    · cases j with
      | zero => exact ⟨(At.hd h).1, (At.hd h).2.1⟩
      | succ j =>
        have := t.2 j (Nat.lt_of_succ_lt_succ hj)
        rw [show p + (j + 1) = p + 1 + j by omega]
        exact this
theorem At.le (h : At g n p l) : p ≤ n := by have := h.1; omega
theorem At.sk : ∀ {l : List Nat} {p : Nat}, At g n p l → At g n (skT g n p) (sk l)
  | [], p, h => by
    have e : p = n := h.1
    unfold skT
    rw [← e, Nat.sub_self]
    exact ⟨by rw [e]; rfl, fun j hj => absurd hj (Nat.not_lt_zero j)⟩
  | x :: l, p, h => by
    obtain ⟨h1, h2, h3⟩ := At.hd h
    have ih := (At.tl h).sk
    have e : n - p = (n - (p + 1)) + 1 := by omega
    unfold skT at ih ⊢
    rw [e, runF, h1]
    show At g n _ (if x = 32 then _ else _)
    by_cases hx : x = 32
    · rw [if_pos ((sp_c x h2).mpr hx), if_pos hx]
      exact ih
    · rw [if_neg (fun z => hx ((sp_c x h2).mp z)), if_neg hx]
      exact h
theorem runF_len {P : Int32 → Bool} : ∀ a m p, (∀ j, j < a → P (g (p + j)) = true) → a < m → ¬ P (g (p + a)) = true → runF P g m p = p + a
  | 0, m, p, _, hm, hn => by
    obtain ⟨m, rfl⟩ : ∃ m', m = m' + 1 := ⟨m - 1, by omega⟩
    rw [Nat.add_zero] at hn
    rw [runF, if_neg hn]
    rfl
  | a + 1, m, p, h, hm, hn => by
    obtain ⟨m, rfl⟩ : ∃ m', m = m' + 1 := ⟨m - 1, by omega⟩
    have h0 := h 0 (Nat.succ_pos _)
    rw [Nat.add_zero] at h0
    rw [runF, if_pos h0, runF_len a m (p + 1) (fun j hj => by rw [show p + 1 + j = p + (j + 1) by omega]; exact h (j + 1) (by omega)) (by omega) (by rw [show p + 1 + a = p + (a + 1) by omega]; exact hn)]
    omega
/-- the words of a setup text -/
def wrd (k : Nat) : List Nat := if k = 0 then [108, 105, 110, 101] else if k = 1 then [122, 111, 110, 101] else if k = 2 then [98, 97, 110, 100] else if k = 3 then [104, 101, 97, 116] else if k = 4 then [116, 104, 105, 99, 107, 110, 101, 115, 115] else [103, 97, 112]
theorem wrd_ok : ∀ k, k < 6 → (wrd k).length = lenJ.getD k 0 ∧ 1 ≤ lenJ.getD k 0 ∧ ∀ j, j < 9 → j < lenJ.getD k 0 → (bytJ.getD k []).getD j 0 = nI ((wrd k).getD j 0) ∧ 97 ≤ (wrd k).getD j 0 ∧ (wrd k).getD j 0 ≤ 122 := by decide +kernel
theorem eqF_t {w : List Int32} : ∀ m j, (∀ i, j ≤ i → i < j + m → g (p + i) = w.getD i 0) → eqF w g p j m = true
  | 0, j, _ => rfl
  | m + 1, j, h => by
    rw [eqF, eqF_t m (j + 1) (fun i h1 h2 => h i (by omega) (by omega)), decide_eq_true (h j (Nat.le_refl _) (by omega))]
    rfl
theorem tok_word (hk : k < 6) (h : At g n p (wrd k ++ c :: l)) (hc : ¬ (97 ≤ c ∧ c ≤ 122)) : kdT g n p = 2 ∧ wdB g n p k = true ∧ At g n (nxT g n p) (sk (c :: l)) := by
  obtain ⟨w1, w2, w3⟩ := wrd_ok k hk
  have hl9 := (lenJ_le k (by omega)).1
  obtain ⟨a1, a2⟩ := h.app
  rw [w1] at a1 a2
  obtain ⟨b1, b2, b3⟩ := At.hd a1
  have e0 := a2 0 (by omega)
  rw [Nat.add_zero] at e0
  have v0 := (w3 0 (by omega) (by omega)).2
  have d0 : ¬ isDg (g p) = true := by rw [e0.1, dg_c _ e0.2]; omega
  have l0 : isLt (g p) = true := by rw [e0.1, lt_c _ e0.2]; exact v0
  have hp : ¬ n ≤ p := by omega
  obtain ⟨k1, k2⟩ := kdT_lt hp d0 l0
  have te : teT g n p = p + lenJ.getD k 0 := by
    rw [k2]
    refine runF_len _ _ _ (fun j hj => ?_) (by omega) ?_
    · rw [(a2 j hj).1, lt_c _ (a2 j hj).2]
      exact (w3 j (by omega) hj).2
    · rw [b1, lt_c _ b2]
      exact hc
  refine ⟨k1, ?_, ?_⟩
  · unfold wdB
    rw [decide_eq_true k1, decide_eq_true te, eqF_t _ _ (fun i _ hi => by rw [(a2 i (by omega)).1, (w3 i (by omega) (by omega)).1])]
    rfl
  · unfold nxT
    rw [te]
    exact a1.sk
theorem wd_no (hk : k < 6) (h : At g n p (c :: l)) (hc : ¬ c = (wrd k).getD 0 0) : wdB g n p k = false := by
  obtain ⟨w1, w2, w3⟩ := wrd_ok k hk
  obtain ⟨b1, b2, b3⟩ := At.hd h
  obtain ⟨m, hm⟩ : ∃ m, lenJ.getD k 0 = m + 1 := ⟨lenJ.getD k 0 - 1, by omega⟩
  have e := (w3 0 (by omega) (by omega))
  have ne : ¬ g (p + 0) = (bytJ.getD k []).getD 0 0 := fun z => by
    rw [Nat.add_zero, b1, e.1] at z
    exact hc (nI_inj (by omega) (by omega) z)
  unfold wdB
  rw [hm, eqF, decide_eq_false ne, Bool.false_and, Bool.and_false, Bool.and_false]
theorem nm_dg {v d : Nat} (hv : v < 1000) (hd : d ≤ 9) : (if 10 * nI v + (nI (48 + d) - 48) < 100000 then 10 * nI v + (nI (48 + d) - 48) else 100000) = nI (10 * v + d) := by
  have e1 : nI (48 + d) - 48 = nI d := by
    have := nI_sub (a := 48 + d) (b := 48) (by omega)
    rw [show nI 48 = (48 : Int32) from rfl] at this
    rw [this, Nat.add_sub_cancel_left]
  have e2 : 10 * nI v = nI (10 * v) := (Int32.ofNat_mul 10 v).symm
  rw [e1, e2, nI_add, if_pos]
  rw [i32_lt, nI_toInt (by omega)]
  show ((10 * v + d : Nat) : Int) < 100000
  omega
theorem tok_num (hm : m < 1000) (h : At g n p (dgs m ++ c :: l)) (hc : ¬ (48 ≤ c ∧ c ≤ 57)) : kdT g n p = 1 ∧ nmC g (teT g n p - p) p 0 = nI m ∧ At g n (nxT g n p) (sk (c :: l)) := by
  obtain ⟨w1, w2, w3⟩ := dgs_ok hm
  have hdig : ∀ j, j < (dgs m).length → 48 ≤ (dgs m).getD j 0 ∧ (dgs m).getD j 0 ≤ 57 := fun j hj => by
    by_cases h1 : m < 10
    · rw [dg1 h1] at hj ⊢
      obtain rfl : j = 0 := by simp at hj; omega
      show 48 ≤ 48 + m ∧ 48 + m ≤ 57
      omega
    · by_cases h2 : m < 100
      · rw [dg2 h1 h2] at hj ⊢
        rcases (show j = 0 ∨ j = 1 by simp at hj; omega) with rfl | rfl
        · show 48 ≤ 48 + m / 10 ∧ 48 + m / 10 ≤ 57
          omega
        · show 48 ≤ 48 + m % 10 ∧ 48 + m % 10 ≤ 57
          omega
      · rw [dg3 h1 h2] at hj ⊢
        rcases (show j = 0 ∨ j = 1 ∨ j = 2 by simp at hj; omega) with rfl | rfl | rfl
        · show 48 ≤ 48 + m / 100 ∧ 48 + m / 100 ≤ 57
          omega
        · show 48 ≤ 48 + m / 10 % 10 ∧ 48 + m / 10 % 10 ≤ 57
          omega
        · show 48 ≤ 48 + m % 10 ∧ 48 + m % 10 ≤ 57
          omega
  obtain ⟨a1, a2⟩ := h.app
  obtain ⟨b1, b2, b3⟩ := At.hd a1
  have e0 := a2 0 (by omega)
  rw [Nat.add_zero] at e0
  have d0 : isDg (g p) = true := by rw [e0.1, dg_c _ e0.2]; exact hdig 0 (by omega)
  have hp : ¬ n ≤ p := by omega
  obtain ⟨k1, k2⟩ := kdT_dg hp d0
  have te : teT g n p = p + (dgs m).length := by
    rw [k2]
    refine runF_len _ _ _ (fun j hj => ?_) (by omega) ?_
    · rw [(a2 j hj).1, dg_c _ (a2 j hj).2]
      exact hdig j hj
    · rw [b1, dg_c _ b2]
      exact hc
  refine ⟨k1, ?_, ?_⟩
  · rw [te, Nat.add_sub_cancel_left, ← nI_0]
    by_cases h1 : m < 10
    · rw [dg1 h1] at a2 ⊢
      have y0 : g p = nI (48 + m) := (a2 0 (by simp)).1
      show nmC g 1 p (nI 0) = _
      rw [nmC, y0, nm_dg (by omega) (by omega), nmC, show 10 * 0 + m = m by omega]
    · by_cases h2 : m < 100
      · rw [dg2 h1 h2] at a2 ⊢
        have y0 : g p = nI (48 + m / 10) := (a2 0 (by simp)).1
        have y1 : g (p + 1) = nI (48 + m % 10) := (a2 1 (by simp)).1
        show nmC g 2 p (nI 0) = _
        rw [nmC, y0, nm_dg (by omega) (by omega), nmC, y1, nm_dg (by omega) (by omega), nmC, show 10 * (10 * 0 + m / 10) + m % 10 = m by omega]
      · rw [dg3 h1 h2] at a2 ⊢
        have y0 : g p = nI (48 + m / 100) := (a2 0 (by simp)).1
        have y1 : g (p + 1) = nI (48 + m / 10 % 10) := (a2 1 (by simp)).1
        have y2 : g (p + 1 + 1) = nI (48 + m % 10) := (a2 2 (by simp)).1
        show nmC g 3 p (nI 0) = _
        rw [nmC, y0, nm_dg (by omega) (by omega), nmC, y1, nm_dg (by omega) (by omega), nmC, y2, nm_dg (by omega) (by omega), nmC, show 10 * (10 * (10 * 0 + m / 100) + m / 10 % 10) + m % 10 = m by omega]
  · unfold nxT
    rw [te]
    exact a1.sk
theorem tok_sign (h : At g n p (c :: l)) (hd : ¬ (48 ≤ c ∧ c ≤ 57)) (hl : ¬ (97 ≤ c ∧ c ≤ 122)) : kdT g n p = 3 ∧ (∀ u, u < 128 → sgB g n p (nI u) = decide (c = u)) ∧ At g n (nxT g n p) (sk l) := by
  obtain ⟨b1, b2, b3⟩ := At.hd h
  have d0 : ¬ isDg (g p) = true := by rw [b1, dg_c _ b2]; exact hd
  have l0 : ¬ isLt (g p) = true := by rw [b1, lt_c _ b2]; exact hl
  obtain ⟨k1, k2⟩ := kdT_ot (show ¬ n ≤ p by omega) d0 l0
  refine ⟨k1, fun u hu => ?_, ?_⟩
  · unfold sgB
    rw [decide_eq_true k1, Bool.true_and, b1]
    by_cases e : c = u
    · rw [e, decide_eq_true rfl, decide_eq_true rfl]
    · rw [decide_eq_false e, decide_eq_false (fun z => e (nI_inj (by omega) (by omega) z))]
  · unfold nxT
    rw [k2]
    exact (At.tl h).sk
theorem sg_no {u : Int32} (h : ¬ kdT g n p = 3) : sgB g n p u = false := by
  unfold sgB
  rw [decide_eq_false h, Bool.false_and]
theorem sk_id {x : Nat} (h : ¬ x = 32) : sk (x :: l) = x :: l := if_neg h
theorem sk_sp : sk (32 :: l) = sk l := if_pos rfl
theorem dgs_cons (hm : m < 1000) : ∃ x w, dgs m = x :: w ∧ 48 ≤ x ∧ x ≤ 57 := by
  by_cases h1 : m < 10
  · exact ⟨_, _, dg1 h1, by omega, by omega⟩
  · by_cases h2 : m < 100
    · exact ⟨_, _, dg2 h1 h2, by omega, by omega⟩
    · exact ⟨_, _, dg3 h1 h2, by omega, by omega⟩
theorem sk_num (hm : m < 1000) : sk (dgs m ++ l) = dgs m ++ l := by
  obtain ⟨x, w, e, h1, h2⟩ := dgs_cons hm
  rw [e]
  exact sk_id (by omega)
theorem wrd_cons (hk : k < 6) : ∃ x w, wrd k = x :: w ∧ 97 ≤ x ∧ x ≤ 122 ∧ x = (wrd k).getD 0 0 := by
  rcases (show k = 0 ∨ k = 1 ∨ k = 2 ∨ k = 3 ∨ k = 4 ∨ k = 5 by omega) with rfl | rfl | rfl | rfl | rfl | rfl
  all_goals exact ⟨_, _, rfl, by decide, by decide, rfl⟩
theorem sk_wrd (hk : k < 6) : sk (wrd k ++ l) = wrd k ++ l := by
  obtain ⟨x, w, e, h1, h2, -⟩ := wrd_cons hk
  rw [e]
  exact sk_id (by omega)
end TOK
