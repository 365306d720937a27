/-! THE CONSTRUCTORS: a heap as the list of what was done to it -/
abbrev Op : Type := Nat × Nat × Nat × Value
def acode : Nat → Nat → Int32
  | 0 => fun _ => 0
  | 1 => m1row
  | _ => usual
def vref : Value → Nat
  | .ref r => r
  | _ => 0
def ap (h : AH) : Op → AH
  | (0, a, b, _) => alO h a b (dfl (a - 1))
  | (1, a, b, _) => alA h a b
  | (2, a, b, v) => wF h a b v
  | (3, a, b, v) => wR h a (va_up (hR h a) b (some (vref v)))
  | (4, a, b, _) => alM h a b
  | (5, a, b, _) => wA h a (acode b)
  | (_, _, _, _) => h
def pqN (o : Op) (n : Nat) : Nat := match o.1 with
  | 0 => n + 1
  | 1 => n + 1
  | 4 => n + 1 + o.2.1
  | _ => n
def pqS (o : Op) (n : Nat) : Nat := match o.1 with
  | 0 => n + o.2.2.1
  | 1 => n + o.2.2.1
  | 4 => n + o.2.1 + o.2.1 * o.2.2.1
  | _ => n
def pqK (i : Nat) (o : Op) (n : Nat) (d : Nat × Nat) : Nat × Nat := match o.1 with
  | 0 => if i = n then (o.2.1, o.2.2.1) else d
  | 1 => if i = n then (o.2.1, o.2.2.1) else d
  | 4 => if i = n then (14, o.2.1) else if n < i ∧ i < n + 1 + o.2.1 then (10, o.2.2.1) else d
  | _ => d
def pqF (i k : Nat) (o : Op) (n : Nat) (d : Value) : Value := match o.1 with
  | 0 => if i = n then dfl (o.2.1 - 1) k else d
  | 2 => if i = o.2.1 ∧ k = o.2.2.1 then o.2.2.2 else d
  | _ => d
/-- whose fields lie at i -/
def pqC (i : Nat) (o : Op) (n : Nat) (c : Nat) : Nat := match o.1 with
  | 0 => if i = n then o.2.1 - 1 else c
  | _ => c
def pqR (i j : Nat) (o : Op) (n : Nat) (d : Option Nat) : Option Nat := match o.1 with
  | 1 => if i = n then none else d
  | 3 => if i = o.2.1 then (if j = o.2.2.1 then some (vref o.2.2.2) else d) else d
  | 4 => if i = n then (if j < o.2.1 then some (n + 1 + j) else none) else d
  | _ => d
/-- was a reference ever put into i -/
def pqT (i : Nat) (o : Op) (n : Nat) (d : Bool) : Bool := match o.1 with
  | 3 => if i = o.2.1 then true else d
  | 4 => if i = n then true else d
  | _ => d
def pqA (i : Nat) (o : Op) (n : Nat) (c : Nat) : Nat := match o.1 with
  | 1 => if i = n then 0 else c
  | 4 => if n < i ∧ i < n + 1 + o.2.1 then 0 else c
  | 5 => if i = o.2.1 then o.2.2.1 else c
  | _ => c
def lq {α : Type} (f : Op → Nat → α → α) : List Op → Nat → α → α
  | [], _, d => d
  | o :: l, n, d => lq f l (pqN o n) (f o n d)
section LQ
variable {α : Type} {h : AH} {o : Op} {i j k n : Nat}
theorem ap_N (h : AH) (o : Op) : hN (ap h o) = pqN o (hN h) := by
  obtain ⟨t, a, b, v⟩ := o
  rcases t with _ | _ | _ | _ | _ | _ | t <;> rfl
theorem ap_S (h : AH) (o : Op) : hS (ap h o) = pqS o (hS h) := by
  obtain ⟨t, a, b, v⟩ := o
  rcases t with _ | _ | _ | _ | _ | _ | t <;> rfl
theorem ap_X (h : AH) (o : Op) : hX (ap h o) = hX h := by
  obtain ⟨t, a, b, v⟩ := o
  rcases t with _ | _ | _ | _ | _ | _ | t <;> rfl
theorem ap_K (i : Nat) (h : AH) (o : Op) : (ap h o).2.2.1 i = pqK i o (hN h) (h.2.2.1 i) := by
  obtain ⟨t, a, b, v⟩ := o
  rcases t with _ | _ | _ | _ | _ | _ | t <;> rfl
theorem ap_F (i k : Nat) (h : AH) (o : Op) : (ap h o).2.2.2.1 i k = pqF i k o (hN h) (h.2.2.2.1 i k) := by
  obtain ⟨t, a, b, v⟩ := o
  rcases t with _ | _ | _ | _ | _ | _ | t
  · show (if i = h.1 then dfl (a - 1) else h.2.2.2.1 i) k = (if i = h.1 then dfl (a - 1) k else h.2.2.2.1 i k)
    split <;> rfl
  all_goals rfl
theorem ap_R (i j : Nat) (h : AH) (o : Op) : (ap h o).2.2.2.2.2.2.1 i j = pqR i j o (hN h) (h.2.2.2.2.2.2.1 i j) := by
  obtain ⟨t, a, b, v⟩ := o
  rcases t with _ | _ | _ | _ | _ | _ | t
  · rfl
  · show (if i = h.1 then (fun _ => none) else h.2.2.2.2.2.2.1 i) j = (if i = h.1 then none else h.2.2.2.2.2.2.1 i j)
    split <;> rfl
  · rfl
  · show (if i = a then va_up (h.2.2.2.2.2.2.1 a) b (some (vref v)) else h.2.2.2.2.2.2.1 i) j = (if i = a then (if j = b then some (vref v) else h.2.2.2.2.2.2.1 i j) else h.2.2.2.2.2.2.1 i j)
    by_cases e : i = a
    · subst e
      rw [if_pos rfl, if_pos rfl]
      rfl
    · rw [if_neg e, if_neg e]
  · show (if i = h.1 then (fun j => if j < a then some (h.1 + 1 + j) else none) else h.2.2.2.2.2.2.1 i) j = (if i = h.1 then (if j < a then some (h.1 + 1 + j) else none) else h.2.2.2.2.2.2.1 i j)
    split <;> rfl
  · rfl
  · rfl
theorem ap_A (i c : Nat) (h : AH) (o : Op) (hc : hA h i = acode c) : hA (ap h o) i = acode (pqA i o (hN h) c) := by
  have hc : h.2.2.2.2.1 i = acode c := hc
  obtain ⟨t, a, b, v⟩ := o
  rcases t with _ | _ | _ | _ | _ | _ | t
  · exact hc
  · show (if i = h.1 then (fun _ => 0) else h.2.2.2.2.1 i) = acode (if i = h.1 then 0 else c)
    split
    · rfl
    · exact hc
  · exact hc
  · exact hc
  · show (if h.1 < i ∧ i < h.1 + 1 + a then (fun _ => 0) else h.2.2.2.2.1 i) = acode (if h.1 < i ∧ i < h.1 + 1 + a then 0 else c)
    split
    · rfl
    · exact hc
  · show (if i = a then acode b else h.2.2.2.2.1 i) = acode (if i = a then b else c)
    split
    · rfl
    · exact hc
  · exact hc
theorem ap_J (i : Nat) (h : AH) (o : Op) (hc : hJ h i = fun _ => 0) : hJ (ap h o) i = fun _ => 0 := by
  have hc : h.2.2.2.2.2.1 i = fun _ => 0 := hc
  obtain ⟨t, a, b, v⟩ := o
  rcases t with _ | _ | _ | _ | _ | _ | t
  · exact hc
  · show (if i = h.1 then (fun _ => 0) else h.2.2.2.2.2.1 i) = _
    split
    · rfl
    · exact hc
  all_goals exact hc
theorem lq_ok {X : AH → α} {f : Op → Nat → α → α} (hf : ∀ h o, X (ap h o) = f o (hN h) (X h)) : ∀ (l : List Op) (h : AH), X (l.foldl ap h) = lq f l (hN h) (X h)
  | [], h => rfl
  | o :: l, h => by
    rw [List.foldl_cons, lq_ok hf l (ap h o), hf, ap_N]
    rfl
theorem lq_A (i : Nat) : ∀ (l : List Op) (h : AH) (c : Nat), hA h i = acode c → hA (l.foldl ap h) i = acode (lq (pqA i) l (hN h) c)
  | [], h, c, hc => hc
  | o :: l, h, c, hc => by
    rw [List.foldl_cons, lq_A i l (ap h o) _ (ap_A i c h o hc), ap_N]
    rfl
theorem lq_J (i : Nat) : ∀ (l : List Op) (h : AH), (hJ h i = fun _ => 0) → hJ (l.foldl ap h) i = fun _ => 0
  | [], h, hc => hc
  | o :: l, h, hc => lq_J i l (ap h o) (ap_J i h o hc)
/-- fields that nothing is written to -/
theorem lq_far : ∀ (l : List Op) (n c : Nat), (∀ o ∈ l, o.1 = 2 → ¬ (i = o.2.1 ∧ k = o.2.2.1)) → lq (pqF i k) l n (dfl c k) = dfl (lq (pqC i) l n c) k
  | [], n, c, _ => rfl
  | o :: l, n, c, hl => by
    have e : pqF i k o n (dfl c k) = dfl (pqC i o n c) k := by
      have h2 := hl o List.mem_cons_self
      obtain ⟨t, a, b, v⟩ := o
      rcases t with _ | _ | _ | t
      · show (if i = n then dfl (a - 1) k else dfl c k) = dfl (if i = n then a - 1 else c) k
        split <;> rfl
      · rfl
      · exact if_neg (h2 rfl)
      · rfl
    show lq (pqF i k) l (pqN o n) (pqF i k o n (dfl c k)) = dfl (lq (pqC i) l (pqN o n) (pqC i o n c)) k
    rw [e, lq_far l (pqN o n) (pqC i o n c) (fun o ho => hl o (List.mem_cons_of_mem _ ho))]
theorem lq_Tt : ∀ (l : List Op) (n : Nat), lq (pqT i) l n true = true
  | [], n => rfl
  | o :: l, n => by
    have e : pqT i o n true = true := by
      obtain ⟨t, a, b, v⟩ := o
      rcases t with _ | _ | _ | _ | _ | t
      · rfl
      · rfl
      · rfl
      · show (if i = a then true else true) = true
        split <;> rfl
      · show (if i = n then true else true) = true
        split <;> rfl
      · rfl
    show lq (pqT i) l (pqN o n) (pqT i o n true) = true
    rw [e]
    exact lq_Tt l _
theorem lq_Rn : ∀ (l : List Op) (n : Nat), lq (pqT i) l n false = false → lq (pqR i j) l n none = none
  | [], n, _ => rfl
  | o :: l, n, ht => by
    have ht : lq (pqT i) l (pqN o n) (pqT i o n false) = false := ht
    have e0 : pqT i o n false = false := by
      cases q : pqT i o n false with
      | false => rfl
      | true =>
        rw [q, lq_Tt] at ht
        cases ht
    have e : pqR i j o n none = none := by
      obtain ⟨t, a, b, v⟩ := o
      rcases t with _ | _ | _ | _ | _ | t
      · rfl
      · show (if i = n then none else none) = none
        split <;> rfl
      · rfl
      · have e0 : (if i = a then true else false) = false := e0
        show (if i = a then (if j = b then some (vref v) else none) else none) = none
        split
        · rename_i q
          rw [if_pos q] at e0
          cases e0
        · rfl
      · have e0 : (if i = n then true else false) = false := e0
        show (if i = n then (if j < a then some (n + 1 + j) else none) else none) = none
        split
        · rename_i q
          rw [if_pos q] at e0
          cases e0
        · rfl
      · rfl
    rw [e0] at ht
    show lq (pqR i j) l (pqN o n) (pqR i j o n none) = none
    rw [e]
    exact lq_Rn l _ ht
/-- beyond the rows' eight -/
theorem lq_R8 : ∀ (l : List Op) (n : Nat), (∀ o ∈ l, (o.1 = 3 → o.2.2.1 < 8) ∧ (o.1 = 4 → o.2.1 ≤ 8)) → 8 ≤ j → lq (pqR i j) l n none = none
  | [], n, _, _ => rfl
  | o :: l, n, hl, hj => by
    have h2 := hl o List.mem_cons_self
    have e : pqR i j o n none = none := by
      obtain ⟨t, a, b, v⟩ := o
      rcases t with _ | _ | _ | _ | _ | t
      · rfl
      · show (if i = n then none else none) = none
        split <;> rfl
      · rfl
      · have hb : b < 8 := h2.1 rfl
        show (if i = a then (if j = b then some (vref v) else none) else none) = none
        rw [if_neg (show ¬ j = b by omega)]
        split <;> rfl
      · have ha : a ≤ 8 := h2.2 rfl
        show (if i = n then (if j < a then some (n + 1 + j) else none) else none) = none
        rw [if_neg (show ¬ j < a by omega)]
        split <;> rfl
      · rfl
    show lq (pqR i j) l (pqN o n) (pqR i j o n none) = none
    rw [e]
    exact lq_R8 l _ (fun o ho => hl o (List.mem_cons_of_mem _ ho)) hj
end LQ
/-! the heap after a list, from the law's entry -/
/-- nothing yet, but that so many slots are used -/
def h0s (x : Nat × (Nat × (Nat → Int32))) : AH := (0, x.1, fun _ => (0, 0), fun _ _ => .null, fun _ _ => 0, fun _ _ => 0, fun _ _ => none, x.2)
def Pq (x : Nat × (Nat × (Nat → Int32))) (l : List Op) : AH := l.foldl ap (h0s x)
section PQ
variable {x : Nat × (Nat × (Nat → Int32))} {l m : List Op} {i j k n kd c : Nat} {v : Value}
theorem dfl_0 : dfl 0 k = .null := by
  show defaultValue (tyX0 k) = .null
  unfold tyX0
  split <;> rfl
theorem Pq_N : hN (Pq x l) = lq (fun o n _ => pqN o n) l 0 0 := lq_ok (X := hN) (f := fun o n _ => pqN o n) (fun h o => ap_N h o) l (h0s x)
theorem Pq_S : hS (Pq x l) = lq (fun o _ d => pqS o d) l 0 x.1 := lq_ok (X := hS) (f := fun o _ d => pqS o d) (fun h o => ap_S h o) l (h0s x)
theorem Pq_X : hX (Pq x l) = x.2 := by
  have e : hX (Pq x l) = lq (fun _ _ d => d) l 0 x.2 := lq_ok (X := hX) (f := fun _ _ d => d) (fun h o => ap_X h o) l (h0s x)
  rw [e]
  clear e
  generalize 0 = n
  induction l generalizing n with
  | nil => rfl
  | cons o l ih => exact ih (pqN o n) 
theorem Pq_K : (Pq x l).2.2.1 i = lq (pqK i) l 0 (0, 0) := lq_ok (X := fun h => h.2.2.1 i) (f := pqK i) (fun h o => ap_K i h o) l (h0s x)
theorem Pq_k : hk (Pq x l) i = (lq (pqK i) l 0 (0, 0)).1 := congrArg Prod.fst Pq_K
theorem Pq_l : hl (Pq x l) i = (lq (pqK i) l 0 (0, 0)).2 := congrArg Prod.snd Pq_K
theorem Pq_F : hF (Pq x l) i k = lq (pqF i k) l 0 .null := lq_ok (X := fun h => h.2.2.2.1 i k) (f := pqF i k) (fun h o => ap_F i k h o) l (h0s x)
theorem Pq_R : hR (Pq x l) i j = lq (pqR i j) l 0 none := lq_ok (X := fun h => h.2.2.2.2.2.2.1 i j) (f := pqR i j) (fun h o => ap_R i j h o) l (h0s x)
theorem Pq_A : hA (Pq x l) i = acode (lq (pqA i) l 0 0) := lq_A i l (h0s x) 0 rfl
theorem Pq_J : hJ (Pq x l) i = fun _ => 0 := lq_J i l (h0s x) rfl
theorem Pq_o : alO (Pq x l) kd n (dfl (kd - 1)) = Pq x (l ++ [(0, kd, n, .null)]) := by
  unfold Pq
  rw [List.foldl_append]
  rfl
theorem Pq_a : alA (Pq x l) kd n = Pq x (l ++ [(1, kd, n, .null)]) := by
  unfold Pq
  rw [List.foldl_append]
  rfl
theorem Pq_f : wF (Pq x l) i k v = Pq x (l ++ [(2, i, k, v)]) := by
  unfold Pq
  rw [List.foldl_append]
  rfl
theorem Pq_l2 : m.foldl ap (Pq x l) = Pq x (l ++ m) := by
  unfold Pq
  rw [List.foldl_append]
theorem pqS_add (o : Op) (n : Nat) : pqS o n = n + pqS o 0 := by
  obtain ⟨t, a, b, v⟩ := o
  rcases t with _ | _ | _ | _ | _ | t
  · show n + b = n + (0 + b); omega
  · show n + b = n + (0 + b); omega
  · show n = n + 0; omega
  · show n = n + 0; omega
  · show n + a + a * b = n + (0 + a + a * b); omega
  · show n = n + 0; omega
theorem lq_S : ∀ (l : List Op) (n d : Nat), lq (fun o _ d => pqS o d) l n d = d + lq (fun o _ d => pqS o d) l n 0
  | [], n, d => by show d = d + 0; omega
  | o :: l, n, d => by
    show lq (fun o _ d => pqS o d) l (pqN o n) (pqS o d) = d + lq (fun o _ d => pqS o d) l (pqN o n) (pqS o 0)
    rw [lq_S l _ (pqS o d), lq_S l _ (pqS o 0), pqS_add o d]
    omega
end PQ
/-! what each constructor does -/
def opSetup (s : Nat) : List Op := [(1, 10, 6, .null), (2, s, 3, .ref (s + 1)), (1, 10, 6, .null), (2, s, 4, .ref (s + 2)), (1, 10, 6, .null), (2, s, 5, .ref (s + 3)), (1, 10, 6, .null), (2, s, 6, .ref (s + 4)), (1, 10, 6, .null), (2, s, 7, .ref (s + 5)), (1, 10, 20, .null), (2, s, 8, .ref (s + 6)), (1, 10, 20, .null), (2, s, 9, .ref (s + 7)), (5, s + 6, 1, .null), (5, s + 7, 1, .null), (1, 10, 3, .null), (5, s + 8, 2, .null), (0, 1, 2, .null), (1, 10, 3, .null), (2, s + 9, 0, .ref (s + 10)), (5, s + 10, 2, .null), (1, 10, 11, .null), (2, s + 9, 1, .ref (s + 11)), (2, s, 10, .ref (s + 9))]
def opReader (r : Nat) : List Op := [(1, 11, 700, .null), (2, r, 0, .ref (r + 1)), (1, 10, 700, .null), (2, r, 11, .ref (r + 2)), (2, r, 8, .int (-1)), (0, 4, 11, .null)] ++ (opSetup (r + 3) ++ [(2, r, 9, .ref (r + 3))])
def opLine (b g : Nat) : List Op := [(2, b, 0, .ref g), (2, b, 3, .int (-1)), (1, 10, 6, .null), (2, b, 5, .ref (b + 1)), (1, 10, 6, .null), (2, b, 6, .ref (b + 2)), (1, 10, 6, .null), (2, b, 7, .ref (b + 3)), (1, 10, 20, .null), (2, b, 8, .ref (b + 4)), (1, 10, 20, .null), (2, b, 9, .ref (b + 5)), (1, 10, 20, .null), (2, b, 10, .ref (b + 6)), (1, 10, 20, .null), (2, b, 11, .ref (b + 7)), (1, 10, 20, .null), (2, b, 12, .ref (b + 8)), (1, 10, 20, .null), (2, b, 13, .ref (b + 9)), (1, 10, 20, .null), (2, b, 14, .ref (b + 10))]
def opRow (y g k : Nat) : List Op := [(0, 3, 15, .null)] ++ (opLine (y + 2 + 11 * k) g ++ [(3, y + 1, k, .ref (y + 2 + 11 * k))])
def opRows (y g : Nat) : Nat → Nat → List Op
  | _, 0 => []
  | k, n + 1 => opRow y g k ++ opRows y g (k + 1) n
def opHist (y g : Nat) : List Op := [(1, 13, 8, .null), (2, y, 0, .ref (y + 1))] ++ opRows y g 0 8
section OPS
variable {h m : AH} {s r b g y k a n d : Nat} {v : Value}
theorem ap_0 : ap h (0, a, b, v) = alO h a b (dfl (a - 1)) := rfl
theorem ap_1 : ap h (1, a, b, v) = alA h a b := rfl
theorem ap_2 : ap h (2, a, b, v) = wF h a b v := rfl
theorem ap_3 : ap h (3, a, b, .ref r) = wR h a (va_up (hR h a) b (some r)) := rfl
theorem ap_51 : ap h (5, a, 1, v) = wA h a m1row := rfl
theorem ap_52 : ap h (5, a, 2, v) = wA h a usual := rfl
theorem sd_setup (hs : hN h = s + 1) : newSetup h s = (opSetup s).foldl ap h := by
  have n8 : hN (wA (wA (nsA h s) (s + 6) m1row) (s + 7) m1row) = s + 8 := nsA_N hs
  have n10 : hN (nsB h s) = s + 10 := by
    show hN (wA (wA (nsA h s) (s + 6) m1row) (s + 7) m1row) + 1 + 1 = s + 10
    rw [n8]
  have u8 : hA (nsB h s) (s + 8) = usual := if_pos rfl
  unfold newSetup newHeat
  rw [n10, u8]
  unfold nsB nsA opSetup
  simp only [List.foldl_cons, List.foldl_nil, ap_0, ap_1, ap_2, ap_51, ap_52, Nat.reduceSub, Nat.add_assoc, Nat.reduceAdd]
theorem sd_reader (hs : hN h = r + 1) : rdH h r = (opReader r).foldl ap h := by
  have mN : hN (rdM h r) = r + 3 + 1 := by
    show hN h + 1 + 1 + 1 = r + 3 + 1
    omega
  unfold rdH
  rw [sd_setup mN]
  unfold rdM opReader
  simp only [List.foldl_append, List.foldl_cons, List.foldl_nil, ap_0, ap_1, ap_2, Nat.reduceSub]
theorem sd_line : lnH h b g = (opLine b g).foldl ap h := by
  unfold lnH opLine
  simp only [List.foldl_cons, List.foldl_nil, ap_1, ap_2]
theorem sd_row : hiS y g k m = (opRow y g k).foldl ap m := by
  unfold hiS opRow
  simp only [List.foldl_append, List.foldl_cons, List.foldl_nil, ap_0, ap_3, Nat.reduceSub, sd_line]
theorem sd_rows : ∀ n k (m : AH), itn (hiS y g) k n m = (opRows y g k n).foldl ap m
  | 0, k, m => rfl
  | n + 1, k, m => by
    rw [itn, opRows, List.foldl_append, sd_rows n (k + 1), sd_row]
theorem sd_hist (hs : hN h = y + 1) : hiH h y g = (opHist y g).foldl ap h := by
  unfold hiH hi0 opHist
  rw [sd_rows, List.foldl_append]
  rfl
end OPS
