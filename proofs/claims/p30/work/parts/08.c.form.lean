/-! LOOPS, SETUPS, THE FORM OF A LINE -/
abbrev zn (x : Int32) : Nat := x.toNatClampNeg
/-- m times f, the first time with k -/
def itn {α : Type} (f : Nat → α → α) : Nat → Nat → α → α
  | _, 0, s => s
  | k, m + 1, s => itn f (k + 1) m (f k s)
theorem itn_succ {α : Type} (f : Nat → α → α) : ∀ (m k : Nat) (s : α), itn f k (m + 1) s = f (k + m) (itn f k m s)
  | 0, k, s => rfl
  | m + 1, k, s => by
    rw [itn, itn_succ f m (k + 1) (f k s), itn]
    congr 1
    omega
theorem i32_lt {x y : Int32} : (x < y) = (x.toInt < y.toInt) := propext Int32.lt_iff_toInt_lt
theorem i32_le {x y : Int32} : (x ≤ y) = (x.toInt ≤ y.toInt) := propext Int32.le_iff_toInt_le
theorem zn_toInt (x : Int32) : x.toNatClampNeg = x.toInt.toNat := rfl
theorem nI_lt_zn {k : Nat} {x : Int32} (hk : k < 2 ^ 31) : (nI k < x) = (k < zn x) := by
  rw [i32_lt, nI_toInt hk]
  refine propext ⟨fun h => ?_, fun h => ?_⟩
  · show k < x.toInt.toNat
    omega
  · have h : k < x.toInt.toNat := h
    omega
theorem nI_le_zn {k : Nat} {x : Int32} (hk : k < 2 ^ 31) : (x ≤ nI k) = ¬ (k < zn x) := by
  rw [← nI_lt_zn hk]
  exact propext ⟨fun h => Int32.not_lt.mpr h, fun h => Int32.not_lt.mp h⟩
theorem inb_nI {k n : Nat} (h : k < n) (hn : n < 2 ^ 31) : inb (nI k) n := ⟨nI_pos' (by omega), by rw [nI_clamp (by omega)]; exact h⟩
theorem inbT {k n : Nat} (h : k < n) (hn : n < 2 ^ 31) : inb (nI k) n = True := eq_true (inb_nI h hn)
/-- a loop upwards: each round makes the next state, the end is what the first fails of -/
theorem loopUp {α : Type} {N : Nat} (f : Nat → α → α) (E : Nat → α → Prop) (out : α → Prop) (hstep : ∀ k s, k < N → E k s = E (k + 1) (f k s)) (hend : ∀ s, E N s = out s) : ∀ m k s, k + m = N → E k s = out (itn f k m s)
  | 0, k, s, hk => by
    have : k = N := by omega
    subst this
    exact hend s
  | m + 1, k, s, hk => (hstep k s (by omega)).trans (loopUp f E out hstep hend m (k + 1) (f k s) (by omega))
/-- a setup lies at s, its heat at t: numbers q, rows a (1 to 7), n steps pg -/
def SUp (h : AH) (T : Nat → Bool) (s t : Nat) (q : Nat → Int32) (a : Nat → Nat → Int32) (n : Nat) (pg : Nat → Int32) : Prop :=
  (∀ j, j ≤ 7 → own (s + j) = false ∧ T (s + j) = false) ∧ (own t = false ∧ own (t + 1) = false ∧ own (t + 2) = false) ∧ (T (t + 1) = false ∧ T (t + 2) = true) ∧
  (hk h s = 4 ∧ hF h s 0 = .int (q 0) ∧ hF h s 1 = .int (q 1) ∧ hF h s 2 = .int (q 2) ∧ hF h s 10 = .ref t) ∧
  (∀ j, 1 ≤ j → j ≤ 7 → hF h s (j + 2) = .ref (s + j) ∧ hk h (s + j) = 10 ∧ hl h (s + j) = (if j ≤ 5 then 6 else 20) ∧ hA h (s + j) = a j) ∧
  (hk h t = 1 ∧ hF h t 0 = .ref (t + 1) ∧ hF h t 1 = .ref (t + 2) ∧ hk h (t + 1) = 10 ∧ hl h (t + 1) = n ∧ hA h (t + 1) = pg ∧ hk h (t + 2) = 10 ∧ hl h (t + 2) = 11) ∧
  (0 ≤ q 0 ∧ zn (q 0) ≤ 6) ∧ n ≤ 700
section SU1
variable {h : AH} {T : Nat → Bool} {U S A : Nat → Nat → Int32} {J : Nat → Nat → Int64} {G : Nat → Nat} {s t n : Nat} {q pg : Nat → Int32} {a : Nat → Nat → Int32}
theorem su_k (hs : SUp h T s t q a n pg) : hk (MH h T U S A J G) s = 4 := (mh_kn (hs.1 0 (by omega)).1).trans hs.2.2.2.1.1
theorem su_f0 (hs : SUp h T s t q a n pg) : hF (MH h T U S A J G) s 0 = .int (q 0) := (mh_Fn (hs.1 0 (by omega)).1).trans hs.2.2.2.1.2.1
theorem su_f1 (hs : SUp h T s t q a n pg) : hF (MH h T U S A J G) s 1 = .int (q 1) := (mh_Fn (hs.1 0 (by omega)).1).trans hs.2.2.2.1.2.2.1
theorem su_f2 (hs : SUp h T s t q a n pg) : hF (MH h T U S A J G) s 2 = .int (q 2) := (mh_Fn (hs.1 0 (by omega)).1).trans hs.2.2.2.1.2.2.2.1
theorem su_f10 (hs : SUp h T s t q a n pg) : hF (MH h T U S A J G) s 10 = .ref t := (mh_Fn (hs.1 0 (by omega)).1).trans hs.2.2.2.1.2.2.2.2
theorem su_tk (hs : SUp h T s t q a n pg) : hk (MH h T U S A J G) t = 1 := (mh_kn hs.2.1.1).trans hs.2.2.2.2.2.1.1
theorem su_t0 (hs : SUp h T s t q a n pg) : hF (MH h T U S A J G) t 0 = .ref (t + 1) := (mh_Fn hs.2.1.1).trans hs.2.2.2.2.2.1.2.1
theorem su_t1 (hs : SUp h T s t q a n pg) : hF (MH h T U S A J G) t 1 = .ref (t + 2) := (mh_Fn hs.2.1.1).trans hs.2.2.2.2.2.1.2.2.1
theorem su_pk (hs : SUp h T s t q a n pg) : hk (MH h T U S A J G) (t + 1) = 10 := (mh_kn hs.2.1.2.1).trans hs.2.2.2.2.2.1.2.2.2.1
theorem su_pl (hs : SUp h T s t q a n pg) : hl (MH h T U S A J G) (t + 1) = n := (mh_ln hs.2.1.2.1).trans hs.2.2.2.2.2.1.2.2.2.2.1
theorem su_pa (hs : SUp h T s t q a n pg) : hA (MH h T U S A J G) (t + 1) = pg := (mh_An hs.2.1.2.1 hs.2.2.1.1).trans hs.2.2.2.2.2.1.2.2.2.2.2.1
theorem su_sk (hs : SUp h T s t q a n pg) : hk (MH h T U S A J G) (t + 2) = 10 := (mh_kn hs.2.1.2.2).trans hs.2.2.2.2.2.1.2.2.2.2.2.2.1
theorem su_sl (hs : SUp h T s t q a n pg) : hl (MH h T U S A J G) (t + 2) = 11 := (mh_ln hs.2.1.2.2).trans hs.2.2.2.2.2.1.2.2.2.2.2.2.2
theorem su_sa (hs : SUp h T s t q a n pg) : hA (MH h T U S A J G) (t + 2) = U (t + 2) := mh_At hs.2.1.2.2 hs.2.2.1.2
theorem su_sw (hs : SUp h T s t q a n pg) {f : Nat → Int32} : wA (MH h T U S A J G) (t + 2) f = MH h T (upf U (t + 2) f) S A J G := mh_wAt hs.2.1.2.2 hs.2.2.1.2
theorem su_f3 (hs : SUp h T s t q a n pg) : hF (MH h T U S A J G) s 3 = .ref (s + 1) := (mh_Fn (hs.1 0 (by omega)).1).trans (hs.2.2.2.2.1 1 (by omega) (by omega)).1
theorem su_k1 (hs : SUp h T s t q a n pg) : hk (MH h T U S A J G) (s + 1) = 10 := (mh_kn (hs.1 1 (by omega)).1).trans (hs.2.2.2.2.1 1 (by omega) (by omega)).2.1
theorem su_l1 (hs : SUp h T s t q a n pg) : hl (MH h T U S A J G) (s + 1) = 6 := (mh_ln (hs.1 1 (by omega)).1).trans (hs.2.2.2.2.1 1 (by omega) (by omega)).2.2.1
theorem su_a1 (hs : SUp h T s t q a n pg) : hA (MH h T U S A J G) (s + 1) = a 1 := (mh_An (hs.1 1 (by omega)).1 (hs.1 1 (by omega)).2).trans (hs.2.2.2.2.1 1 (by omega) (by omega)).2.2.2
theorem su_f4 (hs : SUp h T s t q a n pg) : hF (MH h T U S A J G) s 4 = .ref (s + 2) := (mh_Fn (hs.1 0 (by omega)).1).trans (hs.2.2.2.2.1 2 (by omega) (by omega)).1
theorem su_k2 (hs : SUp h T s t q a n pg) : hk (MH h T U S A J G) (s + 2) = 10 := (mh_kn (hs.1 2 (by omega)).1).trans (hs.2.2.2.2.1 2 (by omega) (by omega)).2.1
theorem su_l2 (hs : SUp h T s t q a n pg) : hl (MH h T U S A J G) (s + 2) = 6 := (mh_ln (hs.1 2 (by omega)).1).trans (hs.2.2.2.2.1 2 (by omega) (by omega)).2.2.1
theorem su_a2 (hs : SUp h T s t q a n pg) : hA (MH h T U S A J G) (s + 2) = a 2 := (mh_An (hs.1 2 (by omega)).1 (hs.1 2 (by omega)).2).trans (hs.2.2.2.2.1 2 (by omega) (by omega)).2.2.2
theorem su_f5 (hs : SUp h T s t q a n pg) : hF (MH h T U S A J G) s 5 = .ref (s + 3) := (mh_Fn (hs.1 0 (by omega)).1).trans (hs.2.2.2.2.1 3 (by omega) (by omega)).1
theorem su_k3 (hs : SUp h T s t q a n pg) : hk (MH h T U S A J G) (s + 3) = 10 := (mh_kn (hs.1 3 (by omega)).1).trans (hs.2.2.2.2.1 3 (by omega) (by omega)).2.1
theorem su_l3 (hs : SUp h T s t q a n pg) : hl (MH h T U S A J G) (s + 3) = 6 := (mh_ln (hs.1 3 (by omega)).1).trans (hs.2.2.2.2.1 3 (by omega) (by omega)).2.2.1
theorem su_a3 (hs : SUp h T s t q a n pg) : hA (MH h T U S A J G) (s + 3) = a 3 := (mh_An (hs.1 3 (by omega)).1 (hs.1 3 (by omega)).2).trans (hs.2.2.2.2.1 3 (by omega) (by omega)).2.2.2
theorem su_f6 (hs : SUp h T s t q a n pg) : hF (MH h T U S A J G) s 6 = .ref (s + 4) := (mh_Fn (hs.1 0 (by omega)).1).trans (hs.2.2.2.2.1 4 (by omega) (by omega)).1
theorem su_k4 (hs : SUp h T s t q a n pg) : hk (MH h T U S A J G) (s + 4) = 10 := (mh_kn (hs.1 4 (by omega)).1).trans (hs.2.2.2.2.1 4 (by omega) (by omega)).2.1
theorem su_l4 (hs : SUp h T s t q a n pg) : hl (MH h T U S A J G) (s + 4) = 6 := (mh_ln (hs.1 4 (by omega)).1).trans (hs.2.2.2.2.1 4 (by omega) (by omega)).2.2.1
theorem su_a4 (hs : SUp h T s t q a n pg) : hA (MH h T U S A J G) (s + 4) = a 4 := (mh_An (hs.1 4 (by omega)).1 (hs.1 4 (by omega)).2).trans (hs.2.2.2.2.1 4 (by omega) (by omega)).2.2.2
theorem su_f7 (hs : SUp h T s t q a n pg) : hF (MH h T U S A J G) s 7 = .ref (s + 5) := (mh_Fn (hs.1 0 (by omega)).1).trans (hs.2.2.2.2.1 5 (by omega) (by omega)).1
theorem su_k5 (hs : SUp h T s t q a n pg) : hk (MH h T U S A J G) (s + 5) = 10 := (mh_kn (hs.1 5 (by omega)).1).trans (hs.2.2.2.2.1 5 (by omega) (by omega)).2.1
theorem su_l5 (hs : SUp h T s t q a n pg) : hl (MH h T U S A J G) (s + 5) = 6 := (mh_ln (hs.1 5 (by omega)).1).trans (hs.2.2.2.2.1 5 (by omega) (by omega)).2.2.1
theorem su_a5 (hs : SUp h T s t q a n pg) : hA (MH h T U S A J G) (s + 5) = a 5 := (mh_An (hs.1 5 (by omega)).1 (hs.1 5 (by omega)).2).trans (hs.2.2.2.2.1 5 (by omega) (by omega)).2.2.2
theorem su_f8 (hs : SUp h T s t q a n pg) : hF (MH h T U S A J G) s 8 = .ref (s + 6) := (mh_Fn (hs.1 0 (by omega)).1).trans (hs.2.2.2.2.1 6 (by omega) (by omega)).1
theorem su_k6 (hs : SUp h T s t q a n pg) : hk (MH h T U S A J G) (s + 6) = 10 := (mh_kn (hs.1 6 (by omega)).1).trans (hs.2.2.2.2.1 6 (by omega) (by omega)).2.1
theorem su_l6 (hs : SUp h T s t q a n pg) : hl (MH h T U S A J G) (s + 6) = 20 := (mh_ln (hs.1 6 (by omega)).1).trans (hs.2.2.2.2.1 6 (by omega) (by omega)).2.2.1
theorem su_a6 (hs : SUp h T s t q a n pg) : hA (MH h T U S A J G) (s + 6) = a 6 := (mh_An (hs.1 6 (by omega)).1 (hs.1 6 (by omega)).2).trans (hs.2.2.2.2.1 6 (by omega) (by omega)).2.2.2
theorem su_f9 (hs : SUp h T s t q a n pg) : hF (MH h T U S A J G) s 9 = .ref (s + 7) := (mh_Fn (hs.1 0 (by omega)).1).trans (hs.2.2.2.2.1 7 (by omega) (by omega)).1
theorem su_k7 (hs : SUp h T s t q a n pg) : hk (MH h T U S A J G) (s + 7) = 10 := (mh_kn (hs.1 7 (by omega)).1).trans (hs.2.2.2.2.1 7 (by omega) (by omega)).2.1
theorem su_l7 (hs : SUp h T s t q a n pg) : hl (MH h T U S A J G) (s + 7) = 20 := (mh_ln (hs.1 7 (by omega)).1).trans (hs.2.2.2.2.1 7 (by omega) (by omega)).2.2.1
theorem su_a7 (hs : SUp h T s t q a n pg) : hA (MH h T U S A J G) (s + 7) = a 7 := (mh_An (hs.1 7 (by omega)).1 (hs.1 7 (by omega)).2).trans (hs.2.2.2.2.1 7 (by omega) (by omega)).2.2.2
end SU1
/-- the numbers and the rows of the line at b, in those of all -/
def pS (S : Nat → Nat → Int32) (b : Nat) (f : Nat → Int32) : Nat → Nat → Int32 := fun i k => if i = b then f k else S i k
def pA (A : Nat → Nat → Int32) (b : Nat) (a : Nat → Nat → Int32) : Nat → Nat → Int32 := fun i => if b < i ∧ i ≤ b + 10 then a (i - b) else A i
section PS
variable {S A : Nat → Nat → Int32} {b : Nat} {f : Nat → Int32} {a : Nat → Nat → Int32}
theorem pS_b {k : Nat} : pS S b f b k = f k := if_pos rfl
theorem pS_up {k : Nat} {v : Int32} : up2 (pS S b f) b k v = pS S b (upf f k v) := by
  funext i j
  unfold up2 pS upf
  by_cases e : i = b
  · subst e
    simp only [true_and, if_true]
  · simp only [e, false_and, if_false]
theorem pS_id : pS S b (S b) = S := by
  funext i k
  unfold pS
  split
  · rename_i e; rw [e]
  · rfl
theorem pA_id : pA A b (fun j => A (b + j)) = A := by
  funext i
  unfold pA
  split
  · rename_i e
    show A (b + (i - b)) = A i
    rw [show b + (i - b) = i by omega]
  · rfl
theorem pA_g {j : Nat} (h1 : 1 ≤ j) (h2 : j ≤ 10) : pA A b a (b + j) = a j := by
  unfold pA
  rw [if_pos ⟨by omega, by omega⟩, show b + j - b = j by omega]
theorem pA_u {j : Nat} {g : Nat → Int32} (h1 : 1 ≤ j) (h2 : j ≤ 10) : upf (pA A b a) (b + j) g = pA A b (upf a j g) := by
  funext i
  unfold upf pA
  by_cases e : i = b + j
  · subst e
    rw [if_pos rfl, if_pos ⟨by omega, by omega⟩]
    exact (if_pos (by omega)).symm
  · rw [if_neg e]
    by_cases e2 : b < i ∧ i ≤ b + 10
    · rw [if_pos e2, if_pos e2]
      exact (if_neg (by omega)).symm
    · rw [if_neg e2, if_neg e2]
theorem pA_1 : pA A b a (b + 1) = a 1 := pA_g (by omega) (by omega)
theorem pU_1 {g : Nat → Int32} : upf (pA A b a) (b + 1) g = pA A b (upf a 1 g) := pA_u (by omega) (by omega)
theorem pA_2 : pA A b a (b + 2) = a 2 := pA_g (by omega) (by omega)
theorem pU_2 {g : Nat → Int32} : upf (pA A b a) (b + 2) g = pA A b (upf a 2 g) := pA_u (by omega) (by omega)
theorem pA_3 : pA A b a (b + 3) = a 3 := pA_g (by omega) (by omega)
theorem pU_3 {g : Nat → Int32} : upf (pA A b a) (b + 3) g = pA A b (upf a 3 g) := pA_u (by omega) (by omega)
theorem pA_4 : pA A b a (b + 4) = a 4 := pA_g (by omega) (by omega)
theorem pU_4 {g : Nat → Int32} : upf (pA A b a) (b + 4) g = pA A b (upf a 4 g) := pA_u (by omega) (by omega)
theorem pA_5 : pA A b a (b + 5) = a 5 := pA_g (by omega) (by omega)
theorem pU_5 {g : Nat → Int32} : upf (pA A b a) (b + 5) g = pA A b (upf a 5 g) := pA_u (by omega) (by omega)
theorem pA_6 : pA A b a (b + 6) = a 6 := pA_g (by omega) (by omega)
theorem pU_6 {g : Nat → Int32} : upf (pA A b a) (b + 6) g = pA A b (upf a 6 g) := pA_u (by omega) (by omega)
theorem pA_7 : pA A b a (b + 7) = a 7 := pA_g (by omega) (by omega)
theorem pU_7 {g : Nat → Int32} : upf (pA A b a) (b + 7) g = pA A b (upf a 7 g) := pA_u (by omega) (by omega)
theorem pA_8 : pA A b a (b + 8) = a 8 := pA_g (by omega) (by omega)
theorem pU_8 {g : Nat → Int32} : upf (pA A b a) (b + 8) g = pA A b (upf a 8 g) := pA_u (by omega) (by omega)
theorem pA_9 : pA A b a (b + 9) = a 9 := pA_g (by omega) (by omega)
theorem pU_9 {g : Nat → Int32} : upf (pA A b a) (b + 9) g = pA A b (upf a 9 g) := pA_u (by omega) (by omega)
theorem pA_10 : pA A b a (b + 10) = a 10 := pA_g (by omega) (by omega)
theorem pU_10 {g : Nat → Int32} : upf (pA A b a) (b + 10) g = pA A b (upf a 10 g) := pA_u (by omega) (by omega)
end PS
