/-! MH: the heap of the law's run in one form -/
def up2 (S : Nat → Nat → Int32) (i k : Nat) (v : Int32) : Nat → Nat → Int32 := fun i' k' => if i' = i ∧ k' = k then v else S i' k'
def upf {α : Type} (A : Nat → α) (i : Nat) (f : α) : Nat → α := fun j => if j = i then f else A j
theorem ah_ext {a b : AH} (h1 : a.1 = b.1) (h2 : a.2.1 = b.2.1) (h3 : ∀ i, a.2.2.1 i = b.2.2.1 i) (h4 : ∀ i k, a.2.2.2.1 i k = b.2.2.2.1 i k) (h5 : ∀ i, a.2.2.2.2.1 i = b.2.2.2.2.1 i) (h6 : ∀ i, a.2.2.2.2.2.1 i = b.2.2.2.2.2.1 i) (h7 : ∀ i, a.2.2.2.2.2.2.1 i = b.2.2.2.2.2.2.1 i) (h8 : a.2.2.2.2.2.2.2 = b.2.2.2.2.2.2.2) : a = b := by
  obtain ⟨a1, a2, a3, a4, a5, a6, a7, a8⟩ := a
  obtain ⟨b1, b2, b3, b4, b5, b6, b7, b8⟩ := b
  dsimp only at h1 h2 h3 h4 h5 h6 h7 h8
  subst h1; subst h2
  have e3 : a3 = b3 := funext h3
  have e4 : a4 = b4 := funext (fun i => funext (h4 i))
  have e5 : a5 = b5 := funext h5
  have e6 : a6 = b6 := funext h6
  have e7 : a7 = b7 := funext h7
  subst e3; subst e4; subst e5; subst e6; subst e7; subst h8
  rfl
theorem upf_same {α : Type} (A : Nat → α) (i : Nat) (f : α) : upf A i f i = f := if_pos rfl
theorem upf_ne {α : Type} (A : Nat → α) {i j : Nat} (f : α) (h : ¬ j = i) : upf A i f j = A j := if_neg h
theorem upf_upf {α : Type} (A : Nat → α) (i : Nat) (f g : α) : upf (upf A i f) i g = upf A i g := by
  funext j
  unfold upf
  split <;> rfl
theorem upf_id {α : Type} (A : Nat → α) (i : Nat) : upf A i (A i) = A := by
  funext j
  unfold upf
  split
  · rename_i h; rw [h]
  · rfl
/-- the ten lines: the line, the trial, the history's rows -/
def isLine (b : Nat) : Bool := b == 28 || (b == 39 || (b == 52 || (b == 63 || (b == 74 || (b == 85 || (b == 96 || (b == 107 || (b == 118 || b == 129))))))))
theorem isLine_lt {b : Nat} (h : isLine b = true) : 28 ≤ b ∧ b ≤ 129 := by
  unfold isLine at h
  simp only [Bool.or_eq_true, beq_iff_eq] at h
  omega
theorem isLine_sep {b c : Nat} (h : isLine b = true) (g : isLine c = true) : b = c ∨ b + 11 ≤ c ∨ c + 11 ≤ b := by
  unfold isLine at h g
  simp only [Bool.or_eq_true, beq_iff_eq] at h g
  omega
/-- these are held by the form itself, all others by the heap below it -/
def own (i : Nat) : Bool := i == 0 || ((decide (13 ≤ i) && decide (i ≤ 15)) || (decide (28 ≤ i) && decide (i ≤ 139)))
def lnIx : Nat → Nat × Nat
  | 0 => (3, 15)
  | 1 => (10, 6)
  | 2 => (10, 6)
  | 3 => (10, 6)
  | 4 => (10, 20)
  | 5 => (10, 20)
  | 6 => (10, 20)
  | 7 => (10, 20)
  | 8 => (10, 20)
  | 9 => (10, 20)
  | 10 => (10, 20)
  | _ => (0, 0)
/-- kind and length of what the form holds -/
def okl (i : Nat) : Nat × Nat :=
  if i = 0 then (6, 4) else if i = 13 then (5, 13) else if i = 14 then (11, 700) else if i = 15 then (10, 700)
  else if i < 50 then lnIx ((i - 28) % 11) else if i = 50 then (2, 3) else if i = 51 then (13, 8)
  else if i < 140 then lnIx ((i - 52) % 11) else if i = 140 then (7, 16) else if i = 141 then (10, 700)
  else if i = 145 then (14, 8) else if i = 154 then (12, 1200) else if i = 155 then (12, 1) else (10, 1451)
def lnF (S : Nat → Nat → Int32) (G : Nat → Nat) (b k : Nat) : Value := if k = 0 then .ref (G b) else if k < 5 then .int (S b k) else if k < 15 then .ref (b + (k - 4)) else .null
def oF1 (S : Nat → Nat → Int32) (G : Nat → Nat) (i k : Nat) : Value :=
  if i = 0 then (match k with | 0 => .ref 13 | 1 => .ref 28 | 2 => .ref 39 | 3 => .ref 50 | _ => .null)
  else if i = 13 then (match k with | 0 => .ref 14 | 9 => .ref (G 13) | 11 => .ref 15 | k => if k < 13 then .int (S 13 k) else .int 0)
  else if i = 50 then (match k with | 0 => .ref 51 | k => .int (S 50 k))
  else if i = 140 then (match k with | 1 => .ref 141 | 8 => .ref 142 | 9 => .ref 143 | 10 => .ref 144 | 11 => .ref 145 | 15 => .ref 154 | k => if k < 15 then .int (S 140 k) else .null)
  else if isLine i = true then lnF S G i k else .null
def oR1 (i : Nat) : Nat → Option Nat := if i = 51 then (fun j => if j < 8 then some (52 + 11 * j) else none) else if i = 145 then (fun j => if j < 8 then some (146 + j) else none) else fun _ => none
/-- h: the setups and the counters; T: which cells are the stacks of heat expressions, U what is in them; S, A, J, G: numbers, rows of numbers, of longs, setups -/
def MH (h : AH) (T : Nat → Bool) (U S A : Nat → Nat → Int32) (J : Nat → Nat → Int64) (G : Nat → Nat) : AH :=
  (h.1, h.2.1, fun i => if own i = true then okl i else h.2.2.1 i, fun i k => if own i = true then oF1 S G i k else h.2.2.2.1 i k, fun i => if own i = true then A i else if T i = true then U i else h.2.2.2.2.1 i,
   fun i => if own i = true then J i else h.2.2.2.2.2.1 i, fun i => if own i = true then oR1 i else h.2.2.2.2.2.2.1 i, h.2.2.2.2.2.2.2)
section MH1
variable {h : AH} {T : Nat → Bool} {U S A : Nat → Nat → Int32} {J : Nat → Nat → Int64} {G : Nat → Nat}
theorem mh_N : hN (MH h T U S A J G) = hN h := rfl
theorem mh_S : hS (MH h T U S A J G) = hS h := rfl
theorem mh_X : hX (MH h T U S A J G) = hX h := rfl
theorem mh_k {i : Nat} (o : own i = true) : hk (MH h T U S A J G) i = (okl i).1 := by
  show (if own i = true then okl i else _).1 = _
  rw [if_pos o]
theorem mh_l {i : Nat} (o : own i = true) : hl (MH h T U S A J G) i = (okl i).2 := by
  show (if own i = true then okl i else _).2 = _
  rw [if_pos o]
theorem mh_kn {i : Nat} (o : own i = false) : hk (MH h T U S A J G) i = hk h i := by
  show (if own i = true then okl i else _).1 = _
  rw [o]; rfl
theorem mh_ln {i : Nat} (o : own i = false) : hl (MH h T U S A J G) i = hl h i := by
  show (if own i = true then okl i else _).2 = _
  rw [o]; rfl
theorem mh_F {i k : Nat} (o : own i = true) : hF (MH h T U S A J G) i k = oF1 S G i k := if_pos o
theorem mh_Fn {i k : Nat} (o : own i = false) : hF (MH h T U S A J G) i k = hF h i k := by
  show (if own i = true then _ else _) = _
  rw [o]; rfl
theorem mh_A {i : Nat} (o : own i = true) : hA (MH h T U S A J G) i = A i := if_pos o
theorem mh_At {i : Nat} (o : own i = false) (t : T i = true) : hA (MH h T U S A J G) i = U i := by
  show (if own i = true then _ else if T i = true then _ else _) = _
  rw [o, t]; rfl
theorem mh_An {i : Nat} (o : own i = false) (t : T i = false) : hA (MH h T U S A J G) i = hA h i := by
  show (if own i = true then _ else if T i = true then _ else _) = _
  rw [o, t]; rfl
theorem mh_J {i : Nat} (o : own i = true) : hJ (MH h T U S A J G) i = J i := if_pos o
theorem mh_R {i : Nat} (o : own i = true) : hR (MH h T U S A J G) i = oR1 i := if_pos o
theorem mh_wA {i : Nat} {f : Nat → Int32} (o : own i = true) : wA (MH h T U S A J G) i f = MH h T U S (upf A i f) J G := by
  unfold wA MH
  refine ah_ext rfl rfl (fun _ => rfl) (fun _ _ => rfl) (fun j => ?_) (fun _ => rfl) (fun _ => rfl) rfl
  dsimp only
  unfold upf
  by_cases e : j = i
  · subst e
    simp only [if_pos, o]
  · simp only [if_neg e]
theorem mh_wAt {i : Nat} {f : Nat → Int32} (o : own i = false) (t : T i = true) : wA (MH h T U S A J G) i f = MH h T (upf U i f) S A J G := by
  unfold wA MH
  refine ah_ext rfl rfl (fun _ => rfl) (fun _ _ => rfl) (fun j => ?_) (fun _ => rfl) (fun _ => rfl) rfl
  dsimp only
  unfold upf
  by_cases e : j = i
  · subst e
    simp only [o, t, if_pos]
    rfl
  · simp only [if_neg e]
theorem mh_wAn {i : Nat} {f : Nat → Int32} (o : own i = false) (t : T i = false) : wA (MH h T U S A J G) i f = MH (wA h i f) T U S A J G := by
  unfold wA MH
  refine ah_ext rfl rfl (fun _ => rfl) (fun _ _ => rfl) (fun j => ?_) (fun _ => rfl) (fun _ => rfl) rfl
  dsimp only
  by_cases e : j = i
  · subst e
    simp only [o, t, if_pos]
    rfl
  · simp only [if_neg e]
theorem mh_wJ {i : Nat} {f : Nat → Int64} (o : own i = true) : wJ (MH h T U S A J G) i f = MH h T U S A (upf J i f) G := by
  unfold wJ MH
  refine ah_ext rfl rfl (fun _ => rfl) (fun _ _ => rfl) (fun _ => rfl) (fun j => ?_) (fun _ => rfl) rfl
  dsimp only
  unfold upf
  by_cases e : j = i
  · subst e
    simp only [if_pos, o]
  · simp only [if_neg e]
theorem mh_wFn {i k : Nat} {v : Value} (o : own i = false) : wF (MH h T U S A J G) i k v = MH (wF h i k v) T U S A J G := by
  unfold wF MH
  refine ah_ext rfl rfl (fun _ => rfl) (fun i' k' => ?_) (fun _ => rfl) (fun _ => rfl) (fun _ => rfl) rfl
  dsimp only
  by_cases e : i' = i ∧ k' = k
  · obtain ⟨rfl, rfl⟩ := e
    simp only [o, and_self, if_true]
    rfl
  · simp only [if_neg e]
theorem mh_alH : alH (MH h T U S A J G) = MH (alH h) T U S A J G := rfl
theorem own_big {i : Nat} (hi : 140 ≤ i) : own i = false := by
  unfold own
  simp only [Bool.or_eq_false_iff, Bool.and_eq_false_iff, beq_eq_false_iff_ne, decide_eq_false_iff_not]
  omega
theorem mh_wF {i k : Nat} {v : Int32} (o : own i = true) (hv : ∀ S : Nat → Nat → Int32, oF1 S G i k = .int (S i k)) (hr : ∀ (S : Nat → Nat → Int32) (i' k' : Nat), ¬ (i' = i ∧ k' = k) → oF1 (up2 S i k v) G i' k' = oF1 S G i' k') : wF (MH h T U S A J G) i k (.int v) = MH h T U (up2 S i k v) A J G := by
  unfold wF MH
  refine ah_ext rfl rfl (fun _ => rfl) (fun i' k' => ?_) (fun _ => rfl) (fun _ => rfl) (fun _ => rfl) rfl
  dsimp only
  by_cases e : i' = i ∧ k' = k
  · obtain ⟨rfl, rfl⟩ := e
    simp only [o, and_self, if_true, hv]
    unfold up2
    simp only [and_self, if_true]
  · simp only [if_neg e]
    by_cases o' : own i' = true
    · simp only [o', if_true, hr S i' k' e]
    · rw [if_neg o', if_neg o']
theorem mh_wG {i k g : Nat} (o : own i = true) (hv : ∀ G : Nat → Nat, oF1 S G i k = .ref (G i)) (hr : ∀ (i' k' : Nat), ¬ (i' = i ∧ k' = k) → oF1 S (upf G i g) i' k' = oF1 S G i' k') : wF (MH h T U S A J G) i k (.ref g) = MH h T U S A J (upf G i g) := by
  unfold wF MH
  refine ah_ext rfl rfl (fun _ => rfl) (fun i' k' => ?_) (fun _ => rfl) (fun _ => rfl) (fun _ => rfl) rfl
  dsimp only
  by_cases e : i' = i ∧ k' = k
  · obtain ⟨rfl, rfl⟩ := e
    simp only [o, and_self, if_true, hv, upf_same]
  · simp only [if_neg e]
    by_cases o' : own i' = true
    · simp only [o', if_true, hr i' k' e]
    · rw [if_neg o', if_neg o']
theorem oF_up {i k : Nat} {v : Int32} : ∀ (S : Nat → Nat → Int32) (i' k' : Nat), ¬ (i' = i ∧ k' = k) → oF1 (up2 S i k v) G i' k' = oF1 S G i' k' := by
  intro S i' k' hne
  have hu : up2 S i k v i' k' = S i' k' := if_neg hne
  unfold oF1 lnF
  split
  · rfl
  · split
    · rename_i h1
      subst h1
      split <;> first | rfl | (rw [hu])
    · split
      · rename_i h1
        subst h1
        split <;> first | rfl | (rw [hu])
      · split
        · rename_i h1
          subst h1
          split <;> first | rfl | (rw [hu])
        · rw [hu]
theorem oG_up {i k g : Nat} (hk : (i = 13 ∧ k = 9) ∨ (isLine i = true ∧ k = 0)) : ∀ (i' k' : Nat), ¬ (i' = i ∧ k' = k) → oF1 S (upf G i g) i' k' = oF1 S G i' k' := by
  intro i' k' hne
  have key : ∀ j, ¬ j = i → upf G i g j = G j := fun j hj => upf_ne G g hj
  have hi : i = 13 ∨ isLine i = true := hk.imp (fun z => z.1) (fun z => z.1)
  unfold oF1 lnF
  by_cases e : i' = i
  · subst e
    have hk' : ¬ k' = k := fun z => hne ⟨rfl, z⟩
    rcases hk with ⟨rfl, rfl⟩ | ⟨h1, rfl⟩
    · simp only [show ¬ (13 : Nat) = 0 by decide, if_false, if_true]
      split <;> first | rfl | exact absurd rfl hk'
    · have := isLine_lt h1
      have n50 : ¬ i' = 50 := fun z => by subst z; exact absurd h1 (by decide)
      simp only [show ¬ i' = 0 by omega, show ¬ i' = 13 by omega, n50, show ¬ i' = 140 by omega, h1, if_false, if_true, hk']
  · rw [key i' e]
    split
    · rfl
    · split
      · rename_i h1
        subst h1
        rw [key 13 e]
      · rfl

theorem ow_0 : own 0 = true := rfl
theorem ow_13 : own 13 = true := rfl
theorem ow_14 : own 14 = true := rfl
theorem ow_15 : own 15 = true := rfl
theorem ow_50 : own 50 = true := rfl
theorem ow_51 : own 51 = true := rfl
theorem ow_l0 {b : Nat} (hb : isLine b = true) : own (b) = true := by
  have := isLine_lt hb
  unfold own
  simp only [Bool.or_eq_true, Bool.and_eq_true, decide_eq_true_eq]
  omega
theorem ol_0 {b : Nat} (hb : isLine b = true) : okl (b) = (3, 15) := by
  unfold isLine at hb
  simp only [Bool.or_eq_true, beq_iff_eq] at hb
  rcases hb with rfl | rfl | rfl | rfl | rfl | rfl | rfl | rfl | rfl | rfl <;> rfl
theorem ow_l1 {b : Nat} (hb : isLine b = true) : own (b + 1) = true := by
  have := isLine_lt hb
  unfold own
  simp only [Bool.or_eq_true, Bool.and_eq_true, decide_eq_true_eq]
  omega
theorem ol_1 {b : Nat} (hb : isLine b = true) : okl (b + 1) = (10, 6) := by
  unfold isLine at hb
  simp only [Bool.or_eq_true, beq_iff_eq] at hb
  rcases hb with rfl | rfl | rfl | rfl | rfl | rfl | rfl | rfl | rfl | rfl <;> rfl
theorem ow_l2 {b : Nat} (hb : isLine b = true) : own (b + 2) = true := by
  have := isLine_lt hb
  unfold own
  simp only [Bool.or_eq_true, Bool.and_eq_true, decide_eq_true_eq]
  omega
theorem ol_2 {b : Nat} (hb : isLine b = true) : okl (b + 2) = (10, 6) := by
  unfold isLine at hb
  simp only [Bool.or_eq_true, beq_iff_eq] at hb
  rcases hb with rfl | rfl | rfl | rfl | rfl | rfl | rfl | rfl | rfl | rfl <;> rfl
theorem ow_l3 {b : Nat} (hb : isLine b = true) : own (b + 3) = true := by
  have := isLine_lt hb
  unfold own
  simp only [Bool.or_eq_true, Bool.and_eq_true, decide_eq_true_eq]
  omega
theorem ol_3 {b : Nat} (hb : isLine b = true) : okl (b + 3) = (10, 6) := by
  unfold isLine at hb
  simp only [Bool.or_eq_true, beq_iff_eq] at hb
  rcases hb with rfl | rfl | rfl | rfl | rfl | rfl | rfl | rfl | rfl | rfl <;> rfl
theorem ow_l4 {b : Nat} (hb : isLine b = true) : own (b + 4) = true := by
  have := isLine_lt hb
  unfold own
  simp only [Bool.or_eq_true, Bool.and_eq_true, decide_eq_true_eq]
  omega
theorem ol_4 {b : Nat} (hb : isLine b = true) : okl (b + 4) = (10, 20) := by
  unfold isLine at hb
  simp only [Bool.or_eq_true, beq_iff_eq] at hb
  rcases hb with rfl | rfl | rfl | rfl | rfl | rfl | rfl | rfl | rfl | rfl <;> rfl
theorem ow_l5 {b : Nat} (hb : isLine b = true) : own (b + 5) = true := by
  have := isLine_lt hb
  unfold own
  simp only [Bool.or_eq_true, Bool.and_eq_true, decide_eq_true_eq]
  omega
theorem ol_5 {b : Nat} (hb : isLine b = true) : okl (b + 5) = (10, 20) := by
  unfold isLine at hb
  simp only [Bool.or_eq_true, beq_iff_eq] at hb
  rcases hb with rfl | rfl | rfl | rfl | rfl | rfl | rfl | rfl | rfl | rfl <;> rfl
theorem ow_l6 {b : Nat} (hb : isLine b = true) : own (b + 6) = true := by
  have := isLine_lt hb
  unfold own
  simp only [Bool.or_eq_true, Bool.and_eq_true, decide_eq_true_eq]
  omega
theorem ol_6 {b : Nat} (hb : isLine b = true) : okl (b + 6) = (10, 20) := by
  unfold isLine at hb
  simp only [Bool.or_eq_true, beq_iff_eq] at hb
  rcases hb with rfl | rfl | rfl | rfl | rfl | rfl | rfl | rfl | rfl | rfl <;> rfl
theorem ow_l7 {b : Nat} (hb : isLine b = true) : own (b + 7) = true := by
  have := isLine_lt hb
  unfold own
  simp only [Bool.or_eq_true, Bool.and_eq_true, decide_eq_true_eq]
  omega
theorem ol_7 {b : Nat} (hb : isLine b = true) : okl (b + 7) = (10, 20) := by
  unfold isLine at hb
  simp only [Bool.or_eq_true, beq_iff_eq] at hb
  rcases hb with rfl | rfl | rfl | rfl | rfl | rfl | rfl | rfl | rfl | rfl <;> rfl
theorem ow_l8 {b : Nat} (hb : isLine b = true) : own (b + 8) = true := by
  have := isLine_lt hb
  unfold own
  simp only [Bool.or_eq_true, Bool.and_eq_true, decide_eq_true_eq]
  omega
theorem ol_8 {b : Nat} (hb : isLine b = true) : okl (b + 8) = (10, 20) := by
  unfold isLine at hb
  simp only [Bool.or_eq_true, beq_iff_eq] at hb
  rcases hb with rfl | rfl | rfl | rfl | rfl | rfl | rfl | rfl | rfl | rfl <;> rfl
theorem ow_l9 {b : Nat} (hb : isLine b = true) : own (b + 9) = true := by
  have := isLine_lt hb
  unfold own
  simp only [Bool.or_eq_true, Bool.and_eq_true, decide_eq_true_eq]
  omega
theorem ol_9 {b : Nat} (hb : isLine b = true) : okl (b + 9) = (10, 20) := by
  unfold isLine at hb
  simp only [Bool.or_eq_true, beq_iff_eq] at hb
  rcases hb with rfl | rfl | rfl | rfl | rfl | rfl | rfl | rfl | rfl | rfl <;> rfl
theorem ow_l10 {b : Nat} (hb : isLine b = true) : own (b + 10) = true := by
  have := isLine_lt hb
  unfold own
  simp only [Bool.or_eq_true, Bool.and_eq_true, decide_eq_true_eq]
  omega
theorem ol_10 {b : Nat} (hb : isLine b = true) : okl (b + 10) = (10, 20) := by
  unfold isLine at hb
  simp only [Bool.or_eq_true, beq_iff_eq] at hb
  rcases hb with rfl | rfl | rfl | rfl | rfl | rfl | rfl | rfl | rfl | rfl <;> rfl
theorem ln_ne {b : Nat} (hb : isLine b = true) : ¬ b = 0 ∧ ¬ b = 13 ∧ ¬ b = 50 ∧ ¬ b = 140 := by
  have := isLine_lt hb
  have n50 : ¬ b = 50 := fun z => by subst z; exact absurd hb (by decide)
  omega
theorem oF_ln {b k : Nat} (hb : isLine b = true) : oF1 S G b k = lnF S G b k := by
  obtain ⟨a1, a2, a3, a4⟩ := ln_ne hb
  unfold oF1
  rw [if_neg a1, if_neg a2, if_neg a3, if_neg a4, if_pos hb]
theorem k_0 : hk (MH h T U S A J G) 0 = 6 := rfl
theorem l_0 : hl (MH h T U S A J G) 0 = 4 := rfl
theorem k_13 : hk (MH h T U S A J G) 13 = 5 := rfl
theorem l_13 : hl (MH h T U S A J G) 13 = 13 := rfl
theorem k_14 : hk (MH h T U S A J G) 14 = 11 := rfl
theorem l_14 : hl (MH h T U S A J G) 14 = 700 := rfl
theorem k_15 : hk (MH h T U S A J G) 15 = 10 := rfl
theorem l_15 : hl (MH h T U S A J G) 15 = 700 := rfl
theorem k_50 : hk (MH h T U S A J G) 50 = 2 := rfl
theorem l_50 : hl (MH h T U S A J G) 50 = 3 := rfl
theorem k_51 : hk (MH h T U S A J G) 51 = 13 := rfl
theorem l_51 : hl (MH h T U S A J G) 51 = 8 := rfl
theorem k_l0 {b : Nat} (hb : isLine b = true) : hk (MH h T U S A J G) b = 3 := (mh_k (ow_l0 hb)).trans (by rw [ol_0 hb])
theorem l_l0 {b : Nat} (hb : isLine b = true) : hl (MH h T U S A J G) b = 15 := (mh_l (ow_l0 hb)).trans (by rw [ol_0 hb])
theorem k_l1 {b : Nat} (hb : isLine b = true) : hk (MH h T U S A J G) (b + 1) = 10 := (mh_k (ow_l1 hb)).trans (by rw [ol_1 hb])
theorem l_l1 {b : Nat} (hb : isLine b = true) : hl (MH h T U S A J G) (b + 1) = 6 := (mh_l (ow_l1 hb)).trans (by rw [ol_1 hb])
theorem a_l1 {b : Nat} (hb : isLine b = true) : hA (MH h T U S A J G) (b + 1) = A (b + 1) := mh_A (ow_l1 hb)
theorem wa_l1 {b : Nat} {f : Nat → Int32} (hb : isLine b = true) : wA (MH h T U S A J G) (b + 1) f = MH h T U S (upf A (b + 1) f) J G := mh_wA (ow_l1 hb)
theorem k_l2 {b : Nat} (hb : isLine b = true) : hk (MH h T U S A J G) (b + 2) = 10 := (mh_k (ow_l2 hb)).trans (by rw [ol_2 hb])
theorem l_l2 {b : Nat} (hb : isLine b = true) : hl (MH h T U S A J G) (b + 2) = 6 := (mh_l (ow_l2 hb)).trans (by rw [ol_2 hb])
theorem a_l2 {b : Nat} (hb : isLine b = true) : hA (MH h T U S A J G) (b + 2) = A (b + 2) := mh_A (ow_l2 hb)
theorem wa_l2 {b : Nat} {f : Nat → Int32} (hb : isLine b = true) : wA (MH h T U S A J G) (b + 2) f = MH h T U S (upf A (b + 2) f) J G := mh_wA (ow_l2 hb)
theorem k_l3 {b : Nat} (hb : isLine b = true) : hk (MH h T U S A J G) (b + 3) = 10 := (mh_k (ow_l3 hb)).trans (by rw [ol_3 hb])
theorem l_l3 {b : Nat} (hb : isLine b = true) : hl (MH h T U S A J G) (b + 3) = 6 := (mh_l (ow_l3 hb)).trans (by rw [ol_3 hb])
theorem a_l3 {b : Nat} (hb : isLine b = true) : hA (MH h T U S A J G) (b + 3) = A (b + 3) := mh_A (ow_l3 hb)
theorem wa_l3 {b : Nat} {f : Nat → Int32} (hb : isLine b = true) : wA (MH h T U S A J G) (b + 3) f = MH h T U S (upf A (b + 3) f) J G := mh_wA (ow_l3 hb)
theorem k_l4 {b : Nat} (hb : isLine b = true) : hk (MH h T U S A J G) (b + 4) = 10 := (mh_k (ow_l4 hb)).trans (by rw [ol_4 hb])
theorem l_l4 {b : Nat} (hb : isLine b = true) : hl (MH h T U S A J G) (b + 4) = 20 := (mh_l (ow_l4 hb)).trans (by rw [ol_4 hb])
theorem a_l4 {b : Nat} (hb : isLine b = true) : hA (MH h T U S A J G) (b + 4) = A (b + 4) := mh_A (ow_l4 hb)
theorem wa_l4 {b : Nat} {f : Nat → Int32} (hb : isLine b = true) : wA (MH h T U S A J G) (b + 4) f = MH h T U S (upf A (b + 4) f) J G := mh_wA (ow_l4 hb)
theorem k_l5 {b : Nat} (hb : isLine b = true) : hk (MH h T U S A J G) (b + 5) = 10 := (mh_k (ow_l5 hb)).trans (by rw [ol_5 hb])
theorem l_l5 {b : Nat} (hb : isLine b = true) : hl (MH h T U S A J G) (b + 5) = 20 := (mh_l (ow_l5 hb)).trans (by rw [ol_5 hb])
theorem a_l5 {b : Nat} (hb : isLine b = true) : hA (MH h T U S A J G) (b + 5) = A (b + 5) := mh_A (ow_l5 hb)
theorem wa_l5 {b : Nat} {f : Nat → Int32} (hb : isLine b = true) : wA (MH h T U S A J G) (b + 5) f = MH h T U S (upf A (b + 5) f) J G := mh_wA (ow_l5 hb)
theorem k_l6 {b : Nat} (hb : isLine b = true) : hk (MH h T U S A J G) (b + 6) = 10 := (mh_k (ow_l6 hb)).trans (by rw [ol_6 hb])
theorem l_l6 {b : Nat} (hb : isLine b = true) : hl (MH h T U S A J G) (b + 6) = 20 := (mh_l (ow_l6 hb)).trans (by rw [ol_6 hb])
theorem a_l6 {b : Nat} (hb : isLine b = true) : hA (MH h T U S A J G) (b + 6) = A (b + 6) := mh_A (ow_l6 hb)
theorem wa_l6 {b : Nat} {f : Nat → Int32} (hb : isLine b = true) : wA (MH h T U S A J G) (b + 6) f = MH h T U S (upf A (b + 6) f) J G := mh_wA (ow_l6 hb)
theorem k_l7 {b : Nat} (hb : isLine b = true) : hk (MH h T U S A J G) (b + 7) = 10 := (mh_k (ow_l7 hb)).trans (by rw [ol_7 hb])
theorem l_l7 {b : Nat} (hb : isLine b = true) : hl (MH h T U S A J G) (b + 7) = 20 := (mh_l (ow_l7 hb)).trans (by rw [ol_7 hb])
theorem a_l7 {b : Nat} (hb : isLine b = true) : hA (MH h T U S A J G) (b + 7) = A (b + 7) := mh_A (ow_l7 hb)
theorem wa_l7 {b : Nat} {f : Nat → Int32} (hb : isLine b = true) : wA (MH h T U S A J G) (b + 7) f = MH h T U S (upf A (b + 7) f) J G := mh_wA (ow_l7 hb)
theorem k_l8 {b : Nat} (hb : isLine b = true) : hk (MH h T U S A J G) (b + 8) = 10 := (mh_k (ow_l8 hb)).trans (by rw [ol_8 hb])
theorem l_l8 {b : Nat} (hb : isLine b = true) : hl (MH h T U S A J G) (b + 8) = 20 := (mh_l (ow_l8 hb)).trans (by rw [ol_8 hb])
theorem a_l8 {b : Nat} (hb : isLine b = true) : hA (MH h T U S A J G) (b + 8) = A (b + 8) := mh_A (ow_l8 hb)
theorem wa_l8 {b : Nat} {f : Nat → Int32} (hb : isLine b = true) : wA (MH h T U S A J G) (b + 8) f = MH h T U S (upf A (b + 8) f) J G := mh_wA (ow_l8 hb)
theorem k_l9 {b : Nat} (hb : isLine b = true) : hk (MH h T U S A J G) (b + 9) = 10 := (mh_k (ow_l9 hb)).trans (by rw [ol_9 hb])
theorem l_l9 {b : Nat} (hb : isLine b = true) : hl (MH h T U S A J G) (b + 9) = 20 := (mh_l (ow_l9 hb)).trans (by rw [ol_9 hb])
theorem a_l9 {b : Nat} (hb : isLine b = true) : hA (MH h T U S A J G) (b + 9) = A (b + 9) := mh_A (ow_l9 hb)
theorem wa_l9 {b : Nat} {f : Nat → Int32} (hb : isLine b = true) : wA (MH h T U S A J G) (b + 9) f = MH h T U S (upf A (b + 9) f) J G := mh_wA (ow_l9 hb)
theorem k_l10 {b : Nat} (hb : isLine b = true) : hk (MH h T U S A J G) (b + 10) = 10 := (mh_k (ow_l10 hb)).trans (by rw [ol_10 hb])
theorem l_l10 {b : Nat} (hb : isLine b = true) : hl (MH h T U S A J G) (b + 10) = 20 := (mh_l (ow_l10 hb)).trans (by rw [ol_10 hb])
theorem a_l10 {b : Nat} (hb : isLine b = true) : hA (MH h T U S A J G) (b + 10) = A (b + 10) := mh_A (ow_l10 hb)
theorem wa_l10 {b : Nat} {f : Nat → Int32} (hb : isLine b = true) : wA (MH h T U S A J G) (b + 10) f = MH h T U S (upf A (b + 10) f) J G := mh_wA (ow_l10 hb)
theorem f_0_0 : hF (MH h T U S A J G) 0 0 = .ref 13 := rfl
theorem f_0_1 : hF (MH h T U S A J G) 0 1 = .ref 28 := rfl
theorem f_0_2 : hF (MH h T U S A J G) 0 2 = .ref 39 := rfl
theorem f_0_3 : hF (MH h T U S A J G) 0 3 = .ref 50 := rfl
theorem f_13_0 : hF (MH h T U S A J G) 13 0 = .ref 14 := rfl
theorem f_13_1 : hF (MH h T U S A J G) 13 1 = .int (S 13 1) := rfl
theorem w_13_1 {v : Int32} : wF (MH h T U S A J G) 13 1 (.int v) = MH h T U (up2 S 13 1 v) A J G := mh_wF rfl (fun _ => rfl) oF_up
theorem f_13_2 : hF (MH h T U S A J G) 13 2 = .int (S 13 2) := rfl
theorem w_13_2 {v : Int32} : wF (MH h T U S A J G) 13 2 (.int v) = MH h T U (up2 S 13 2 v) A J G := mh_wF rfl (fun _ => rfl) oF_up
theorem f_13_3 : hF (MH h T U S A J G) 13 3 = .int (S 13 3) := rfl
theorem w_13_3 {v : Int32} : wF (MH h T U S A J G) 13 3 (.int v) = MH h T U (up2 S 13 3 v) A J G := mh_wF rfl (fun _ => rfl) oF_up
theorem f_13_4 : hF (MH h T U S A J G) 13 4 = .int (S 13 4) := rfl
theorem w_13_4 {v : Int32} : wF (MH h T U S A J G) 13 4 (.int v) = MH h T U (up2 S 13 4 v) A J G := mh_wF rfl (fun _ => rfl) oF_up
theorem f_13_5 : hF (MH h T U S A J G) 13 5 = .int (S 13 5) := rfl
theorem w_13_5 {v : Int32} : wF (MH h T U S A J G) 13 5 (.int v) = MH h T U (up2 S 13 5 v) A J G := mh_wF rfl (fun _ => rfl) oF_up
theorem f_13_6 : hF (MH h T U S A J G) 13 6 = .int (S 13 6) := rfl
theorem w_13_6 {v : Int32} : wF (MH h T U S A J G) 13 6 (.int v) = MH h T U (up2 S 13 6 v) A J G := mh_wF rfl (fun _ => rfl) oF_up
theorem f_13_7 : hF (MH h T U S A J G) 13 7 = .int (S 13 7) := rfl
theorem w_13_7 {v : Int32} : wF (MH h T U S A J G) 13 7 (.int v) = MH h T U (up2 S 13 7 v) A J G := mh_wF rfl (fun _ => rfl) oF_up
theorem f_13_8 : hF (MH h T U S A J G) 13 8 = .int (S 13 8) := rfl
theorem w_13_8 {v : Int32} : wF (MH h T U S A J G) 13 8 (.int v) = MH h T U (up2 S 13 8 v) A J G := mh_wF rfl (fun _ => rfl) oF_up
theorem f_13_9 : hF (MH h T U S A J G) 13 9 = .ref (G 13) := rfl
theorem f_13_10 : hF (MH h T U S A J G) 13 10 = .int (S 13 10) := rfl
theorem w_13_10 {v : Int32} : wF (MH h T U S A J G) 13 10 (.int v) = MH h T U (up2 S 13 10 v) A J G := mh_wF rfl (fun _ => rfl) oF_up
theorem f_13_11 : hF (MH h T U S A J G) 13 11 = .ref 15 := rfl
theorem f_13_12 : hF (MH h T U S A J G) 13 12 = .int (S 13 12) := rfl
theorem w_13_12 {v : Int32} : wF (MH h T U S A J G) 13 12 (.int v) = MH h T U (up2 S 13 12 v) A J G := mh_wF rfl (fun _ => rfl) oF_up
theorem f_50_0 : hF (MH h T U S A J G) 50 0 = .ref 51 := rfl
theorem f_50_1 : hF (MH h T U S A J G) 50 1 = .int (S 50 1) := rfl
theorem w_50_1 {v : Int32} : wF (MH h T U S A J G) 50 1 (.int v) = MH h T U (up2 S 50 1 v) A J G := mh_wF rfl (fun _ => rfl) oF_up
theorem f_50_2 : hF (MH h T U S A J G) 50 2 = .int (S 50 2) := rfl
theorem w_50_2 {v : Int32} : wF (MH h T U S A J G) 50 2 (.int v) = MH h T U (up2 S 50 2 v) A J G := mh_wF rfl (fun _ => rfl) oF_up
theorem w_13_9 {g : Nat} : wF (MH h T U S A J G) 13 9 (.ref g) = MH h T U S A J (upf G 13 g) := mh_wG rfl (fun _ => rfl) (oG_up (Or.inl ⟨rfl, rfl⟩))
theorem f_l0 {b : Nat} (hb : isLine b = true) : hF (MH h T U S A J G) b 0 = .ref (G b) := (mh_F (ow_l0 hb)).trans ((oF_ln hb).trans rfl)
theorem f_l1 {b : Nat} (hb : isLine b = true) : hF (MH h T U S A J G) b 1 = .int (S b 1) := (mh_F (ow_l0 hb)).trans ((oF_ln hb).trans rfl)
theorem w_l1 {b : Nat} {v : Int32} (hb : isLine b = true) : wF (MH h T U S A J G) b 1 (.int v) = MH h T U (up2 S b 1 v) A J G := mh_wF (ow_l0 hb) (fun _ => (oF_ln hb).trans rfl) oF_up
theorem f_l2 {b : Nat} (hb : isLine b = true) : hF (MH h T U S A J G) b 2 = .int (S b 2) := (mh_F (ow_l0 hb)).trans ((oF_ln hb).trans rfl)
theorem w_l2 {b : Nat} {v : Int32} (hb : isLine b = true) : wF (MH h T U S A J G) b 2 (.int v) = MH h T U (up2 S b 2 v) A J G := mh_wF (ow_l0 hb) (fun _ => (oF_ln hb).trans rfl) oF_up
theorem f_l3 {b : Nat} (hb : isLine b = true) : hF (MH h T U S A J G) b 3 = .int (S b 3) := (mh_F (ow_l0 hb)).trans ((oF_ln hb).trans rfl)
theorem w_l3 {b : Nat} {v : Int32} (hb : isLine b = true) : wF (MH h T U S A J G) b 3 (.int v) = MH h T U (up2 S b 3 v) A J G := mh_wF (ow_l0 hb) (fun _ => (oF_ln hb).trans rfl) oF_up
theorem f_l4 {b : Nat} (hb : isLine b = true) : hF (MH h T U S A J G) b 4 = .int (S b 4) := (mh_F (ow_l0 hb)).trans ((oF_ln hb).trans rfl)
theorem w_l4 {b : Nat} {v : Int32} (hb : isLine b = true) : wF (MH h T U S A J G) b 4 (.int v) = MH h T U (up2 S b 4 v) A J G := mh_wF (ow_l0 hb) (fun _ => (oF_ln hb).trans rfl) oF_up
theorem f_l5 {b : Nat} (hb : isLine b = true) : hF (MH h T U S A J G) b 5 = .ref (b + 1) := (mh_F (ow_l0 hb)).trans ((oF_ln hb).trans rfl)
theorem f_l6 {b : Nat} (hb : isLine b = true) : hF (MH h T U S A J G) b 6 = .ref (b + 2) := (mh_F (ow_l0 hb)).trans ((oF_ln hb).trans rfl)
theorem f_l7 {b : Nat} (hb : isLine b = true) : hF (MH h T U S A J G) b 7 = .ref (b + 3) := (mh_F (ow_l0 hb)).trans ((oF_ln hb).trans rfl)
theorem f_l8 {b : Nat} (hb : isLine b = true) : hF (MH h T U S A J G) b 8 = .ref (b + 4) := (mh_F (ow_l0 hb)).trans ((oF_ln hb).trans rfl)
theorem f_l9 {b : Nat} (hb : isLine b = true) : hF (MH h T U S A J G) b 9 = .ref (b + 5) := (mh_F (ow_l0 hb)).trans ((oF_ln hb).trans rfl)
theorem f_l10 {b : Nat} (hb : isLine b = true) : hF (MH h T U S A J G) b 10 = .ref (b + 6) := (mh_F (ow_l0 hb)).trans ((oF_ln hb).trans rfl)
theorem f_l11 {b : Nat} (hb : isLine b = true) : hF (MH h T U S A J G) b 11 = .ref (b + 7) := (mh_F (ow_l0 hb)).trans ((oF_ln hb).trans rfl)
theorem f_l12 {b : Nat} (hb : isLine b = true) : hF (MH h T U S A J G) b 12 = .ref (b + 8) := (mh_F (ow_l0 hb)).trans ((oF_ln hb).trans rfl)
theorem f_l13 {b : Nat} (hb : isLine b = true) : hF (MH h T U S A J G) b 13 = .ref (b + 9) := (mh_F (ow_l0 hb)).trans ((oF_ln hb).trans rfl)
theorem f_l14 {b : Nat} (hb : isLine b = true) : hF (MH h T U S A J G) b 14 = .ref (b + 10) := (mh_F (ow_l0 hb)).trans ((oF_ln hb).trans rfl)
theorem w_l0 {b g : Nat} (hb : isLine b = true) : wF (MH h T U S A J G) b 0 (.ref g) = MH h T U S A J (upf G b g) := mh_wG (ow_l0 hb) (fun _ => (oF_ln hb).trans rfl) (oG_up (Or.inr ⟨hb, rfl⟩))
theorem a_14 : hA (MH h T U S A J G) 14 = A 14 := rfl
theorem wa_14 {f : Nat → Int32} : wA (MH h T U S A J G) 14 f = MH h T U S (upf A 14 f) J G := mh_wA rfl
theorem a_15 : hA (MH h T U S A J G) 15 = A 15 := rfl
theorem wa_15 {f : Nat → Int32} : wA (MH h T U S A J G) 15 f = MH h T U S (upf A 15 f) J G := mh_wA rfl
theorem r_51 : hR (MH h T U S A J G) 51 = oR1 51 := rfl
end MH1
