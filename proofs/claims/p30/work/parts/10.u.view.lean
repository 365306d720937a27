/-! READING: the class's reader over a heap -/
/-- what a heap of the class's reader is over: heap, stacks, their content, numbers, rows, longs, setups -/
abbrev HP : Type := AH × (Nat → Bool) × (Nat → Nat → Int32) × (Nat → Nat → Int32) × (Nat → Nat → Int32) × (Nat → Nat → Int64) × (Nat → Nat)
def cH (c : HP) (r st : Nat → Int32) : AH := MH c.1 c.2.1 c.2.2.1 (pS c.2.2.2.1 13 r) (upf c.2.2.2.2.1 15 st) c.2.2.2.2.2.1 c.2.2.2.2.2.2
def cB (c : HP) : Nat → Int32 := c.2.2.2.2.1 14
section CH
variable {d : Nat} {hh : AH} {K : AO → AH → Prop} {c : HP} {g r st m D : Nat → Int32} {n p e k x dp nc : Nat} {u v nu ec hs lo hi ob ud sn : Int32} {sc : Nat}
theorem c_B : (upf c.2.2.2.2.1 15 st) 14 = cB c := upf_ne _ _ (by decide)
theorem c_k : hk (cH c r st) 13 = 5 := k_13
theorem c_f2 : hF (cH c r st) 13 2 = .int (r 2) := f_13_2.trans (by rw [pS_b])
theorem c_f3 : hF (cH c r st) 13 3 = .int (r 3) := f_13_3.trans (by rw [pS_b])
theorem c_f6 : hF (cH c r st) 13 6 = .int (r 6) := f_13_6.trans (by rw [pS_b])
theorem c_f10 : hF (cH c r st) 13 10 = .int (r 10) := f_13_10.trans (by rw [pS_b])
theorem c_f12 : hF (cH c r st) 13 12 = .int (r 12) := f_13_12.trans (by rw [pS_b])
theorem c_w10 : wF (cH c r st) 13 10 (.int v) = cH c (upf r 10 v) st := w_13_10.trans (by rw [pS_up]; rfl)
theorem c_w12 : wF (cH c r st) 13 12 (.int v) = cH c (upf r 12 v) st := w_13_12.trans (by rw [pS_up]; rfl)
theorem c_tok (hg : cB c = g) (hn : n ≤ 700) (hp : p ≤ n) : EvM (d + 1) 48 [.ref 13] (cH c (rd g n p nu ec hs sc) st) K = K (.inl none) (cH c (rd g n (nxT g n p) nu ec hs sc) st) := s_tok (c_B.trans hg) hn hp
theorem c_signIs (hg : cB c = g) (hn : n ≤ 700) : EvM d 46 [.ref 13, .int u] (cH c (rd g n p nu ec hs sc) st) K = K (.inl (some (.int (bI (sgB g n p u = true))))) (cH c (rd g n p nu ec hs sc) st) := s_signIs (c_B.trans hg) hn
theorem c_takeSign (hg : cB c = g) (hn : n ≤ 700) (hp : p ≤ n) (hs1 : sgB g n p u = true) : EvM (d + 2) 45 [.ref 13, .int u] (cH c (rd g n p nu ec hs sc) st) K = K (.inl (some (.int 1))) (cH c (rd g n (nxT g n p) nu ec hs sc) st) := (s_takeSign (c_B.trans hg) hn hp).trans (if_pos hs1)
theorem c_putStep (hc : sc < 700) : EvM d 43 [.ref 13, .int u] (cH c (rd g n p nu ec hs sc) st) K = K (.inl none) (cH c (rd g n p nu ec hs (sc + 1)) (upd st sc u)) := s_putStep hc
theorem c_wordIs (hk6 : k < 17) (hg : cB c = g) (hn : n ≤ 700) (hp : p ≤ n) : EvM (d + 4) 47 [.ref 13, litV k] (cH c (rd g n p nu ec hs sc) st) K = K (.inl (some (.int (bI (wdB g n p k = true))))) (cH c (rd g n p nu ec hs sc) st) := s_wordIs hk6 (c_B.trans hg) hn hp
theorem c_takeNumber (hg : cB c = g) (hn : n ≤ 700) (hp : p ≤ n) (h1 : kdT g n p = 1) (hv : nmC g (teT g n p - p) p 0 = v) (h2 : lo ≤ v ∧ v ≤ hi) : EvM (d + 2) 44 [.ref 13, .int lo, .int hi] (cH c (rd g n p nu ec hs sc) st) K = K (.inl (some (.int 1))) (cH c (rd g n (nxT g n p) v ec hs sc) st) := by
  subst hv
  exact (s_takeNumber (c_B.trans hg) hn hp).trans ((if_pos h1).trans (if_pos h2))
end CH
/-- the steps L from the i-th on -/
def apL : (Nat → Int32) → Nat → List Int32 → Nat → Int32
  | st, _, [] => st
  | st, i, v :: t => apL (upd st i v) (i + 1) t
theorem apL_app : ∀ (L0 L : List Int32) (st : Nat → Int32) (i : Nat), apL st i (L0 ++ L) = apL (apL st i L0) (i + L0.length) L
  | [], L, st, i => rfl
  | v :: t, L, st, i => by
    show apL (upd st i v) (i + 1) (t ++ L) = apL (apL (upd st i v) (i + 1) t) (i + (t.length + 1)) L
    rw [apL_app t L, show i + 1 + t.length = i + (t.length + 1) by omega]
theorem apL_lo : ∀ (L : List Int32) (st : Nat → Int32) (i k : Nat), k < i → apL st i L k = st k
  | [], st, i, k, h => rfl
  | v :: t, st, i, k, h => (apL_lo t _ (i + 1) k (by omega)).trans (if_neg (by omega))
theorem apL_at : ∀ (L : List Int32) (st : Nat → Int32) (i j : Nat), j < L.length → apL st i L (i + j) = L.getD j 0
  | [], st, i, j, h => absurd h (Nat.not_lt_zero _)
  | v :: t, st, i, 0, h => (apL_lo t _ (i + 1) i (by omega)).trans (if_pos rfl)
  | v :: t, st, i, j + 1, h => by
    have h : j + 1 < t.length + 1 := h
    show apL (upd st i v) (i + 1) t (i + (j + 1)) = t.getD j 0
    rw [show i + (j + 1) = i + 1 + j by omega]
    exact apL_at t _ (i + 1) j (by omega)
