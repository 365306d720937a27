/-! THE INTERPRETER: an abstract heap, a step, a run; sound over the machine -/
abbrev AH : Type := Nat × Nat × (Nat → Nat × Nat) × (Nat → Nat → Value) × (Nat → Nat → Int32) × (Nat → Nat → Int64) × (Nat → Nat → Option Nat) × (Nat × (Nat → Int32))
def hN (h : AH) : Nat := h.1
def hS (h : AH) : Nat := h.2.1
def hk (h : AH) (a : Nat) : Nat := (h.2.2.1 a).1
def hl (h : AH) (a : Nat) : Nat := (h.2.2.1 a).2
def hF (h : AH) (a k : Nat) : Value := h.2.2.2.1 a k
def hA (h : AH) (a : Nat) : Nat → Int32 := h.2.2.2.2.1 a
def hJ (h : AH) (a : Nat) : Nat → Int64 := h.2.2.2.2.2.1 a
def hR (h : AH) (a : Nat) : Nat → Option Nat := h.2.2.2.2.2.2.1 a
def hX (h : AH) : Nat × (Nat → Int32) := h.2.2.2.2.2.2.2
def wF (h : AH) (a k : Nat) (v : Value) : AH := (h.1, h.2.1, h.2.2.1, fun i j => if i = a ∧ j = k then v else h.2.2.2.1 i j, h.2.2.2.2)
def wA (h : AH) (a : Nat) (f : Nat → Int32) : AH := (h.1, h.2.1, h.2.2.1, h.2.2.2.1, fun i => if i = a then f else h.2.2.2.2.1 i, h.2.2.2.2.2)
def wJ (h : AH) (a : Nat) (f : Nat → Int64) : AH := (h.1, h.2.1, h.2.2.1, h.2.2.2.1, h.2.2.2.2.1, fun i => if i = a then f else h.2.2.2.2.2.1 i, h.2.2.2.2.2.2)
def wR (h : AH) (a : Nat) (f : Nat → Option Nat) : AH := (h.1, h.2.1, h.2.2.1, h.2.2.2.1, h.2.2.2.2.1, h.2.2.2.2.2.1, fun i => if i = a then f else h.2.2.2.2.2.2.1 i, h.2.2.2.2.2.2.2)
/-- a new object of kind kd with n fields fs -/
def alO (h : AH) (kd n : Nat) (fs : Nat → Value) : AH := (h.1 + 1, h.2.1 + n, fun i => if i = h.1 then (kd, n) else h.2.2.1 i, fun i => if i = h.1 then fs else h.2.2.2.1 i, h.2.2.2.2)
/-- a new array of kind kd of n elements, all of them the default -/
def alA (h : AH) (kd n : Nat) : AH := (h.1 + 1, h.2.1 + n, fun i => if i = h.1 then (kd, n) else h.2.2.1 i, h.2.2.2.1, fun i => if i = h.1 then (fun _ => 0) else h.2.2.2.2.1 i, fun i => if i = h.1 then (fun _ => 0) else h.2.2.2.2.2.1 i, fun i => if i = h.1 then (fun _ => none) else h.2.2.2.2.2.2.1 i, h.2.2.2.2.2.2.2)
/-- new int[n][m] -/
def alM (h : AH) (n m : Nat) : AH := (h.1 + 1 + n, h.2.1 + n + n * m, fun i => if i = h.1 then (14, n) else if h.1 < i ∧ i < h.1 + 1 + n then (10, m) else h.2.2.1 i, h.2.2.2.1, fun i => if h.1 < i ∧ i < h.1 + 1 + n then (fun _ => 0) else h.2.2.2.2.1 i, h.2.2.2.2.2.1, fun i => if i = h.1 then (fun j => if j < n then some (h.1 + 1 + j) else none) else h.2.2.2.2.2.2.1 i, h.2.2.2.2.2.2.2)
/-- a thrown exception: a cell that nobody looks at -/
def alH (h : AH) : AH := (h.1 + 1, h.2.1 + 6, h.2.2)
abbrev aLS : Type := List (Option Value)
def nl : Option Value → Option Value
  | some w => if w.category = 2 then none else some w
  | none => none
def lst1 : aLS → Nat → Option Value → aLS
  | [], _, _ => []
  | _ :: t, 0, v => v :: t
  | a :: t, 1, v => nl a :: lst1 t 0 v
  | a :: t, n + 2, v => a :: lst1 t (n + 1) v
def lst2 : aLS → Nat → Option Value → aLS
  | _ :: _ :: t, 0, v => v :: none :: t
  | a :: t, 1, v => nl a :: lst2 t 0 v
  | a :: t, n + 2, v => a :: lst2 t (n + 1) v
  | l, _, _ => l
def aenl : List Value → aLS
  | [] => []
  | v :: vs => if v.category = 2 then some v :: none :: aenl vs else some v :: aenl vs
def aent (args : List Value) (n : Nat) : aLS := aenl args ++ List.replicate (n - (aenl args).length) none
/-- the fixed things of a run: classes, array classes, the heap's size at the law's entry, the script's cell, the literals' cells and arrays, the script -/
abbrev OM : Type := va_G × (Nat → ClassId) × Nat × Nat × (Nat → Nat) × (Nat → Nat) × (Nat × (Nat → Int32)) × Option Nat × Nat × (Nat → Nat)
def oD (o : OM) : va_G := o.1
def oT (o : OM) : Nat → ClassId := o.2.1
def oL (o : OM) : Nat := o.2.2.1
def oS (o : OM) : Nat := o.2.2.2.1
def oK (o : OM) : Nat → Nat := o.2.2.2.2.1
def oV (o : OM) : Nat → Nat := o.2.2.2.2.2.1
def oX (o : OM) : Nat × (Nat → Int32) := o.2.2.2.2.2.2.1
def oF (o : OM) : Option Nat := o.2.2.2.2.2.2.2.1
/-- how far the abstract heap begins behind the heap of the law's entry; the statics' arrays -/
def oO (o : OM) : Nat := o.2.2.2.2.2.2.2.2.1
def oW (o : OM) : Nat → Nat := o.2.2.2.2.2.2.2.2.2
def oB (o : OM) : Nat := oL o + oO o
theorem oLB (o : OM) (a : Nat) : oL o ≤ oB o + a := by unfold oB; omega
/-- what lies outside of the abstract heap, by number: 0 the script, 1 the formatter of the JDK's index checks, 2 k + 2 literal k, 2 k + 3 its bytes -/
def tflo (o : OM) (n : Nat) : Value := if n = 0 then .ref (oS o) else if n = 1 then va_rf (oF o) else if 100 ≤ n then .ref (oW o (n - 100)) else if n % 2 = 0 then .ref (oK o (n / 2 - 1)) else .ref (oV o (n / 2 - 1))
/-- a value of the abstract heap as the machine has it -/
def trv (o : OM) : Value → Value
  | .ref a => .ref (oB o + a)
  | .float u => tflo o u.toNat
  | .int x => .int x
  | .long x => .long x
  | .double x => .double x
  | .null => .null
  | .retAddr x => .retAddr x
theorem tflo_cat (o : OM) (n : Nat) : (tflo o n).category = 1 := by
  unfold tflo
  split
  · rfl
  · split
    · cases oF o <;> rfl
    · split
      · rfl
      · split <;> rfl
theorem trv_cat (o : OM) (v : Value) : (trv o v).category = v.category := by
  cases v <;> first | rfl | exact tflo_cat o _
/-- a reference of the abstract heap, the script or a literal -/
def isR : Value → Bool
  | .ref _ => true
  | .float u => decide (u.toNat ≠ 1)
  | .null => true
  | _ => false
theorem isR_tr {o : OM} {v : Value} (hv : isR v = true) : (∃ a, trv o v = .ref a) ∨ trv o v = .null := by
  cases v with
  | ref a => exact Or.inl ⟨_, rfl⟩
  | null => exact Or.inr rfl
  | float u =>
    have h1 : u.toNat ≠ 1 := of_decide_eq_true hv
    refine Or.inl ?_
    show ∃ a, tflo o u.toNat = .ref a
    unfold tflo
    rw [if_neg h1]
    split
    · exact ⟨_, rfl⟩
    · split
      · exact ⟨_, rfl⟩
      · split <;> exact ⟨_, rfl⟩
  | _ => cases hv
def lvp (o : OM) (ls : aLS) : List (Nat × Value) := (List.range ls.length).filterMap (fun j => match ls[j]? with | some (some w) => some (j, trv o w) | _ => none)
theorem lvp_mem {o : OM} {ls : aLS} {q : Nat × Value} : q ∈ lvp o ls ↔ ∃ w, ls[q.1]? = some (some w) ∧ q.2 = trv o w := by
  unfold lvp
  rw [List.mem_filterMap]
  constructor
  · rintro ⟨j, -, hj⟩
    cases h : ls[j]? with
    | none => rw [h] at hj; cases hj
    | some x =>
      cases x with
      | none => rw [h] at hj; cases hj
      | some w => rw [h] at hj; cases hj; exact ⟨w, h, rfl⟩
  · rintro ⟨w, h, e⟩
    refine ⟨q.1, List.mem_range.mpr (List.getElem?_eq_some_iff.mp h).1, ?_⟩
    rw [h]
    show some (q.1, trv o w) = some q
    rw [← e]
def LV (o : OM) (lsA : Array Slot) (ls : aLS) : Prop := lv_has lsA ls.length (lvp o ls)
theorem LV.get {o : OM} {lsA : Array Slot} {ls : aLS} (h : LV o lsA ls) {i : Nat} {v : Value} (hi : ls[i]? = some (some v)) : lsA[i]? = some (.val (trv o v)) := h.2.2 (i, trv o v) (lvp_mem.mpr ⟨v, hi, rfl⟩)
theorem nl_some {a : Option Value} {w : Value} (h : nl a = some w) : a = some w ∧ ¬ w.category = 2 := by
  cases a with
  | none => cases h
  | some x =>
    by_cases hc : x.category = 2
    · have e : nl (some x) = none := if_pos hc
      rw [e] at h; cases h
    · have e : nl (some x) = some x := if_neg hc
      rw [e] at h; cases h; exact ⟨rfl, hc⟩
theorem lst1_len : ∀ (ls : aLS) (i : Nat) (v : Option Value), (lst1 ls i v).length = ls.length
  | [], _, _ => by simp [lst1]
  | _ :: t, 0, v => by simp [lst1]
  | a :: t, 1, v => by simp [lst1, lst1_len t 0 v]
  | a :: t, n + 2, v => by simp [lst1, lst1_len t (n + 1) v]
theorem lst1_get : ∀ (ls : aLS) (i j : Nat) (v : Option Value) (w : Value), (lst1 ls i v)[j]? = some (some w) → (j = i ∧ v = some w) ∨ (j ≠ i ∧ ls[j]? = some (some w) ∧ ¬ (j + 1 = i ∧ w.category = 2))
  | [], _, _, _, _, h => by simp [lst1] at h
  | a :: t, 0, j, v, w, h => by
    rw [lst1] at h
    cases j with
    | zero => simp at h; exact Or.inl ⟨rfl, h⟩
    | succ j => simp at h; exact Or.inr ⟨by omega, by simpa using h, by omega⟩
  | a :: t, 1, j, v, w, h => by
    rw [lst1] at h
    cases j with
    | zero =>
      simp at h
      obtain ⟨h1, h2⟩ := nl_some h
      exact Or.inr ⟨by omega, by simpa using h1, fun q => h2 q.2⟩
    | succ j =>
      simp at h
      rcases lst1_get t 0 j v w h with ⟨h1, h2⟩ | ⟨h1, h2, h3⟩
      · exact Or.inl ⟨by omega, h2⟩
      · exact Or.inr ⟨by omega, by simpa using h2, by omega⟩
  | a :: t, n + 2, j, v, w, h => by
    rw [lst1] at h
    cases j with
    | zero => simp at h; exact Or.inr ⟨by omega, by simpa using h, by omega⟩
    | succ j =>
      simp at h
      rcases lst1_get t (n + 1) j v w h with ⟨h1, h2⟩ | ⟨h1, h2, h3⟩
      · exact Or.inl ⟨by omega, h2⟩
      · exact Or.inr ⟨by omega, by simpa using h2, fun q => h3 ⟨by omega, q.2⟩⟩
theorem lst2_len : ∀ (ls : aLS) (i : Nat) (v : Option Value), (lst2 ls i v).length = ls.length
  | [], i, v => by cases i <;> simp [lst2]
  | [a], 0, v => by simp [lst2]
  | a :: b :: t, 0, v => by simp [lst2]
  | a :: t, 1, v => by simp [lst2, lst2_len t 0 v]
  | a :: t, n + 2, v => by simp [lst2, lst2_len t (n + 1) v]
theorem lst2_get : ∀ (ls : aLS) (i j : Nat) (v : Option Value) (w : Value), i + 1 < ls.length → (lst2 ls i v)[j]? = some (some w) → (j = i ∧ v = some w) ∨ (j ≠ i ∧ j ≠ i + 1 ∧ ls[j]? = some (some w) ∧ ¬ (j + 1 = i ∧ w.category = 2))
  | [], i, j, v, w, hi, h => by simp at hi
  | [a], 0, j, v, w, hi, h => by simp at hi
  | a :: b :: t, 0, j, v, w, hi, h => by
    rw [lst2] at h
    cases j with
    | zero => simp at h; exact Or.inl ⟨rfl, h⟩
    | succ j =>
      cases j with
      | zero => simp at h
      | succ j => simp at h; exact Or.inr ⟨by omega, by omega, by simpa using h, by omega⟩
  | a :: t, 1, j, v, w, hi, h => by
    rw [lst2] at h
    cases j with
    | zero =>
      simp at h
      obtain ⟨h1, h2⟩ := nl_some h
      exact Or.inr ⟨by omega, by omega, by simpa using h1, fun q => h2 q.2⟩
    | succ j =>
      simp at h
      rcases lst2_get t 0 j v w (by simp at hi; omega) h with ⟨h1, h2⟩ | ⟨h1, h1', h2, h3⟩
      · exact Or.inl ⟨by omega, h2⟩
      · exact Or.inr ⟨by omega, by omega, by simpa using h2, by omega⟩
  | a :: t, n + 2, j, v, w, hi, h => by
    rw [lst2] at h
    cases j with
    | zero => simp at h; exact Or.inr ⟨by omega, by omega, by simpa using h, by omega⟩
    | succ j =>
      simp at h
      rcases lst2_get t (n + 1) j v w (by simp at hi; omega) h with ⟨h1, h2⟩ | ⟨h1, h1', h2, h3⟩
      · exact Or.inl ⟨by omega, h2⟩
      · exact Or.inr ⟨by omega, by omega, by simpa using h2, fun q => h3 ⟨by omega, q.2⟩⟩
theorem LV.st1 {o : OM} {lsA : Array Slot} {ls : aLS} {i : Nat} {v : Value} (h : lv_has lsA ls.length ((i, trv o v) :: (lvp o ls).filter (fun q => !(q.1 == i) && !(q.1 + 1 == i && q.2.category == 2)))) : LV o lsA (lst1 ls i (some v)) := by
  refine ⟨by rw [lst1_len]; exact h.1, h.2.1, fun q hq => h.2.2 q ?_⟩
  obtain ⟨w, h1, h2⟩ := lvp_mem.mp hq
  obtain ⟨j, x⟩ := q
  dsimp only at h1 h2
  subst h2
  rcases lst1_get ls i j _ w h1 with ⟨rfl, h3⟩ | ⟨h3, h4, h5⟩
  · cases h3; exact List.mem_cons_self
  · refine List.mem_cons_of_mem _ (List.mem_filter.mpr ⟨lvp_mem.mpr ⟨w, h4, rfl⟩, ?_⟩)
    simp only [trv_cat, Bool.and_eq_true, Bool.not_eq_true', beq_eq_false_iff_ne, ne_eq, Bool.and_eq_false_iff]
    exact ⟨h3, by by_cases e : j + 1 = i; exact Or.inr (fun z => h5 ⟨e, z⟩); exact Or.inl e⟩
theorem LV.st0 {o : OM} {lsA : Array Slot} {ls : aLS} {i : Nat} {v : Value} (h : lv_has lsA ls.length ((i, v) :: (lvp o ls).filter (fun q => !(q.1 == i) && !(q.1 + 1 == i && q.2.category == 2)))) : LV o lsA (lst1 ls i none) := by
  refine ⟨by rw [lst1_len]; exact h.1, h.2.1, fun q hq => h.2.2 q ?_⟩
  obtain ⟨w, h1, h2⟩ := lvp_mem.mp hq
  obtain ⟨j, x⟩ := q
  dsimp only at h1 h2
  subst h2
  rcases lst1_get ls i j _ w h1 with ⟨rfl, h3⟩ | ⟨h3, h4, h5⟩
  · cases h3
  · refine List.mem_cons_of_mem _ (List.mem_filter.mpr ⟨lvp_mem.mpr ⟨w, h4, rfl⟩, ?_⟩)
    simp only [trv_cat, Bool.and_eq_true, Bool.not_eq_true', beq_eq_false_iff_ne, ne_eq, Bool.and_eq_false_iff]
    exact ⟨h3, by by_cases e : j + 1 = i; exact Or.inr (fun z => h5 ⟨e, z⟩); exact Or.inl e⟩
theorem LV.st2 {o : OM} {lsA : Array Slot} {ls : aLS} {i : Nat} {v : Value} (hi : i + 1 < ls.length) (h : lv_has lsA ls.length ((i, trv o v) :: (lvp o ls).filter (fun q => !(q.1 == i) && (!(q.1 == i + 1) && !(q.1 + 1 == i && q.2.category == 2))))) : LV o lsA (lst2 ls i (some v)) := by
  refine ⟨by rw [lst2_len]; exact h.1, h.2.1, fun q hq => h.2.2 q ?_⟩
  obtain ⟨w, h1, h2⟩ := lvp_mem.mp hq
  obtain ⟨j, x⟩ := q
  dsimp only at h1 h2
  subst h2
  rcases lst2_get ls i j _ w hi h1 with ⟨rfl, h3⟩ | ⟨h3, h3', h4, h5⟩
  · cases h3; exact List.mem_cons_self
  · refine List.mem_cons_of_mem _ (List.mem_filter.mpr ⟨lvp_mem.mpr ⟨w, h4, rfl⟩, ?_⟩)
    simp only [trv_cat, Bool.and_eq_true, Bool.not_eq_true', beq_eq_false_iff_ne, ne_eq, Bool.and_eq_false_iff]
    exact ⟨h3, h3', by by_cases e : j + 1 = i; exact Or.inr (fun z => h5 ⟨e, z⟩); exact Or.inl e⟩
theorem aenl_len (o : OM) : ∀ args : List Value, (aenl args).length = (lg_sl (args.map (trv o))).length
  | [] => rfl
  | v :: vs => by
    have ih := aenl_len o vs
    simp only [aenl, List.map_cons, lg_sl, List.flatMap_cons, trv_cat] at ih ⊢
    split
    · simp [ih]
    · simp [ih]
theorem aenl_get (o : OM) : ∀ (args : List Value) (i j : Nat) (w : Value), (aenl args)[j]? = some (some w) → (i + j, trv o w) ∈ lv_args i (args.map (trv o))
  | [], i, j, w, h => by simp [aenl] at h
  | v :: vs, i, j, w, h => by
    simp only [aenl] at h
    rw [List.map_cons, lv_args]
    by_cases hc : v.category = 2
    · rw [if_pos hc] at h
      rw [if_pos (by rw [trv_cat]; exact hc)]
      match j, h with
      | 0, h => simp at h; subst h; exact List.mem_cons_self
      | 1, h => simp at h
      | j + 2, h =>
        have := aenl_get o vs (i + 2) j w (by simpa using h)
        rw [show i + (j + 2) = i + 2 + j by omega]
        exact List.mem_cons_of_mem _ this
    · rw [if_neg hc] at h
      rw [if_neg (by rw [trv_cat]; exact hc)]
      match j, h with
      | 0, h => simp at h; subst h; exact List.mem_cons_self
      | j + 1, h =>
        have := aenl_get o vs (i + 1) j w (by simpa using h)
        rw [show i + (j + 1) = i + 1 + j by omega]
        exact List.mem_cons_of_mem _ this
theorem LV.entry (o : OM) (args : List Value) (n : Nat) (h : (aenl args).length ≤ n) : LV o ((lg_sl (args.map (trv o)) ++ List.replicate (n - (lg_sl (args.map (trv o))).length) Slot.unset).toArray) (aent args n) := by
  have e := aenl_len o args
  have h1 := lv_entry (args.map (trv o)) (n := n) (by omega)
  have hlen : (aent args n).length = n := by simp [aent]; omega
  refine ⟨by rw [hlen]; exact h1.1, h1.2.1, fun q hq => h1.2.2 q ?_⟩
  obtain ⟨w, h2, h3⟩ := lvp_mem.mp hq
  obtain ⟨j, x⟩ := q
  dsimp only at h2 h3
  subst h3
  unfold aent at h2
  by_cases hj : j < (aenl args).length
  · rw [List.getElem?_append_left hj] at h2
    have := aenl_get o args 0 j w h2
    rwa [Nat.zero_add] at this
  · rw [List.getElem?_append_right (by omega), List.getElem?_replicate] at h2
    split at h2 <;> cases h2
