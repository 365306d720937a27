/-! READING: a heat statement -/
def newHeatR (h : AH) (t n : Nat) (pg : Nat → Int32) : AH := wF (alA (wA (wF (alA h 10 n) t 0 (.ref (hN h))) (hN h) pg) 10 11) t 1 (.ref (hN h + 1))
/-- the heap with a new heat at its end -/
def hT3 (h : AH) (n : Nat) (pg : Nat → Int32) : AH := newHeatR (alO h 1 2 (dfl 0)) (hN h) n pg
section HT3
variable {h : AH} {T : Nat → Bool} {U S A : Nat → Nat → Int32} {J : Nat → Nat → Int64} {G : Nat → Nat} {s t n kd k i : Nat} {q pg f : Nat → Int32} {a : Nat → Nat → Int32} {v : Value} {fs : Nat → Value}
theorem alO_SP (hs : s < hN h) : alO (SP h s q a t) kd n fs = SP (alO h kd n fs) s q a t := by
  have hs : s < h.1 := hs
  refine ah_ext rfl rfl (fun _ => rfl) (fun i k => ?_) (fun _ => rfl) (fun _ => rfl) (fun _ => rfl) rfl
  show (if i = h.1 then fs else fun k => if i = s then (if k = 0 then Value.int (q 0) else if k = 1 then .int (q 1) else if k = 2 then .int (q 2) else if k = 10 then .ref t else h.2.2.2.1 i k) else h.2.2.2.1 i k) k = (if i = s then (if k = 0 then Value.int (q 0) else if k = 1 then .int (q 1) else if k = 2 then .int (q 2) else if k = 10 then .ref t else (if i = h.1 then fs else h.2.2.2.1 i) k) else (if i = h.1 then fs else h.2.2.2.1 i) k)
  by_cases e : i = h.1
  · have e2 : ¬ i = s := by omega
    rw [if_pos e, if_neg e2, if_pos e]
  · rw [if_neg e, if_neg e]
theorem alA_SP (hs : s + 7 < hN h) : alA (SP h s q a t) kd n = SP (alA h kd n) s q a t := by
  have hs : s + 7 < h.1 := hs
  refine ah_ext rfl rfl (fun _ => rfl) (fun _ _ => rfl) (fun i => ?_) (fun _ => rfl) (fun _ => rfl) rfl
  show (if i = h.1 then (fun _ => 0) else if s < i ∧ i ≤ s + 7 then a (i - s) else h.2.2.2.2.1 i) = (if s < i ∧ i ≤ s + 7 then a (i - s) else if i = h.1 then (fun _ => 0) else h.2.2.2.2.1 i)
  by_cases e : i = h.1
  · rw [if_pos e, if_neg (by omega), if_pos e]
  · rw [if_neg e, if_neg e]
theorem wF_SP (hi : ¬ i = s) : wF (SP h s q a t) i k v = SP (wF h i k v) s q a t := by
  refine ah_ext rfl rfl (fun _ => rfl) (fun j l => ?_) (fun _ => rfl) (fun _ => rfl) (fun _ => rfl) rfl
  show (if j = i ∧ l = k then v else if j = s then (if l = 0 then Value.int (q 0) else if l = 1 then .int (q 1) else if l = 2 then .int (q 2) else if l = 10 then .ref t else h.2.2.2.1 j l) else h.2.2.2.1 j l) = (if j = s then (if l = 0 then Value.int (q 0) else if l = 1 then .int (q 1) else if l = 2 then .int (q 2) else if l = 10 then .ref t else (if j = i ∧ l = k then v else h.2.2.2.1 j l)) else (if j = i ∧ l = k then v else h.2.2.2.1 j l))
  by_cases e : j = s
  · subst e
    have e2 : ¬ (j = i ∧ l = k) := fun z => hi z.1.symm
    simp only [e2, if_true, if_false]
  · rw [if_neg e, if_neg e]
theorem wA_SP (hi : s + 7 < i) : wA (SP h s q a t) i f = SP (wA h i f) s q a t := by
  refine ah_ext rfl rfl (fun _ => rfl) (fun _ _ => rfl) (fun j => ?_) (fun _ => rfl) (fun _ => rfl) rfl
  show (if j = i then f else if s < j ∧ j ≤ s + 7 then a (j - s) else h.2.2.2.2.1 j) = (if s < j ∧ j ≤ s + 7 then a (j - s) else if j = i then f else h.2.2.2.2.1 j)
  by_cases e : j = i
  · rw [if_pos e, if_neg (by omega), if_pos e]
  · rw [if_neg e, if_neg e]
theorem sp_N : hN (SP h s q a t) = hN h := rfl
theorem hT3_SP (hs : s + 7 < hN h) : hT3 (SP h s q a t) n pg = SP (hT3 h n pg) s q a t := by
  unfold hT3 newHeatR
  rw [sp_N, alO_SP (show s < hN h by omega), alA_SP (show s + 7 < hN (alO h 1 2 (dfl 0)) by rw [oN_O]; omega), wF_SP (show ¬ hN h = s by omega), sp_N, oN_O, wA_SP (show s + 7 < hN h + 1 by omega), alA_SP (show s + 7 < hN (wA (wF (alA (alO h 1 2 (dfl 0)) 10 n) (hN h) 0 (Value.ref (hN h + 1))) (hN h + 1) pg) by rw [oN_W, oN_F, oN_A, oN_O]; omega), wF_SP (show ¬ hN h = s by omega)]
theorem mh_hT3 (h156 : 140 ≤ hN h) (hT : ∀ i, hN h ≤ i → T i = false) : newHeat (alO (MH h T U S A J G) 1 2 (dfl 0)) (hN h) 15 n = MH (hT3 h n (A 15)) T U S A J G := by
  have o1 : ∀ k, own (hN h + k) = false := fun k => own_big (by omega)
  have o0 : own (hN h) = false := own_big h156
  have t1 : ∀ k, T (hN h + k) = false := fun k => hT _ (by omega)
  have t0 : T (hN h) = false := hT _ (Nat.le_refl _)
  unfold hT3 newHeatR newHeat
  simp only [mh_alO, mh_alA, mh_wFn, mh_wAn, a_15, mh_N, oN_O, oN_A, oN_F, oN_W, Nat.add_assoc, Nat.reduceAdd, o1, o0, t1, t0]
theorem hT3_N : hN (hT3 h n pg) = hN h + 3 := rfl
theorem hT3_S : hS (hT3 h n pg) = hS h + (n + 13) := by
  show hS h + 2 + n + 11 = _
  omega
theorem hT3_X : hX (hT3 h n pg) = hX h := rfl
theorem hT3_fr : fr (hN h) h (hT3 h n pg) := by
  unfold hT3 newHeatR
  exact fr_tr (fr_tr (fr_tr (fr_tr (fr_tr (fr_alO (Nat.le_refl _)) (fr_alA (N := hN h) (by rw [oN_O]; omega)) (Nat.le_refl _)) (fr_wF (N := hN h) (Nat.le_refl _)) (Nat.le_refl _)) (fr_wA (N := hN h) (by rw [oN_O]; omega)) (Nat.le_refl _)) (fr_alA (N := hN h) (by rw [oN_W, oN_F, oN_A, oN_O]; omega)) (Nat.le_refl _)) (fr_wF (N := hN h) (Nat.le_refl _)) (Nat.le_refl _)
theorem hT3_HT (h156 : 140 ≤ hN h) (hT : ∀ i, hN h ≤ i → T i = false) (hn : n ≤ 700) : HTp (hT3 h n pg) (tAdd T (hN h + 2)) (hN h) n pg := by
  have e1 : (hN h = hN h + 1) = False := eq_false (by omega)
  have e2 : (hN h + 1 = hN h) = False := eq_false (by omega)
  have e3 : (hN h + 2 = hN h) = False := eq_false (by omega)
  have e4 : (hN h = hN h + 2) = False := eq_false (by omega)
  have e5 : (hN h + 1 = hN h + 2) = False := eq_false (by omega)
  have e6 : (hN h + 2 = hN h + 1) = False := eq_false (by omega)
  refine ⟨⟨own_big h156, own_big (by omega), own_big (by omega)⟩, ⟨?_, tAdd_at⟩, ?_, hn⟩
  · unfold tAdd
    rw [hT _ (by omega), decide_eq_false (by omega)]
    rfl
  · unfold hT3 newHeatR
    simp only [oN_O, oN_A, oN_F, oN_W, ok_O, ok_A, ok_F, ok_W, ol_O, ol_A, ol_F, ol_W, of_O, of_A, of_F, of_W, oa_O, oa_A, oa_F, oa_W, Nat.add_assoc, Nat.reduceAdd, e1, e2, e3, e4, e5, e6, if_true, if_false, true_and, and_true, and_self, false_and, and_false, show ((0 : Nat) = 1) = False from eq_false (by decide), show ((1 : Nat) = 0) = False from eq_false (by decide)]
end HT3
/-- what the class reads into, once a new heat lies there -/
def tC (c : HP) (n : Nat) (pg : Nat → Int32) : HP := (hT3 c.1 n pg, tAdd c.2.1 (hN c.1 + 2), upf c.2.2.1 (hN c.1 + 2) (fun _ => 0), c.2.2.2)
def cE (c c' : HP) (k kS : Nat) : Prop := fr (hN c.1) c.1 c'.1 ∧ frT (hN c.1) c.2.1 c'.2.1 ∧ hN c.1 ≤ hN c'.1 ∧ hN c'.1 ≤ hN c.1 + k ∧ hS c'.1 ≤ hS c.1 + kS ∧ hX c'.1 = hX c.1 ∧ (∀ i, hN c'.1 ≤ i → c'.2.1 i = false) ∧ c'.2.2.2 = c.2.2.2
theorem cE_id {c : HP} {k kS : Nat} (hT : ∀ i, hN c.1 ≤ i → c.2.1 i = false) : cE c c k kS := ⟨fr_id, fun _ _ => rfl, Nat.le_refl _, by omega, by omega, rfl, hT, rfl⟩
theorem cE_le {c c' : HP} {k k' l l' : Nat} (h : cE c c' k l) (h1 : k ≤ k') (h2 : l ≤ l') : cE c c' k' l' := by
  obtain ⟨a1, a2, a3, a4, a5, a6, a7, a8⟩ := h
  exact ⟨a1, a2, a3, by omega, by omega, a6, a7, a8⟩
theorem cE_tr {c c' c'' : HP} {k k' l l' : Nat} (h : cE c c' k l) (h' : cE c' c'' k' l') : cE c c'' (k + k') (l + l') := by
  obtain ⟨a1, a2, a3, a4, a5, a6, a7, a8⟩ := h
  obtain ⟨b1, b2, b3, b4, b5, b6, b7, b8⟩ := h'
  exact ⟨fr_tr a1 b1 a3, fun i hi => (b2 i (by omega)).trans (a2 i hi), by omega, by omega, by omega, b6.trans a6, b7, b8.trans a8⟩
theorem tC_cE {c : HP} {n : Nat} {pg : Nat → Int32} (hT : ∀ i, hN c.1 ≤ i → c.2.1 i = false) (hn : n ≤ 700) : cE c (tC c n pg) 3 713 := by
  refine ⟨hT3_fr, frT_add (by omega), ?_, ?_, ?_, rfl, fun i hi => ?_, rfl⟩
  · show hN c.1 ≤ hN c.1 + 3
    omega
  · show hN c.1 + 3 ≤ hN c.1 + 3
    omega
  · show hS (hT3 c.1 n pg) ≤ _
    rw [hT3_S]
    omega
  · have hi : hN c.1 + 3 ≤ i := hi
    show tAdd c.2.1 (hN c.1 + 2) i = false
    unfold tAdd
    rw [hT i (by omega), decide_eq_false (by omega)]
    rfl
/-- the class stands where a setup is being read -/
def cG (c : HP) (s t n : Nat) (pg : Nat → Int32) : Prop := SBc c.1 c.2.1 s ∧ HTp c.1 c.2.1 t n pg ∧ s + 8 ≤ t ∧ t + 3 ≤ hN c.1 ∧ 140 ≤ s ∧ c.2.2.2.2.2.2 13 = s ∧ (∀ i, hN c.1 ≤ i → c.2.1 i = false)
theorem tC_cG {c : HP} {s t n n' : Nat} {pg pg' : Nat → Int32} (h : cG c s t n pg) (hn : n' ≤ 700) : cG (tC c n' pg') s (hN c.1) n' pg' := by
  obtain ⟨a1, a2, a3, a4, a5, a6, a7⟩ := h
  have e := tC_cE (pg := pg') a7 hn
  refine ⟨SBc_fr e.1 e.2.1 a1 (by omega), hT3_HT (by omega) a7 hn, by omega, Nat.le_refl _, a5, a6, e.2.2.2.2.2.2.1⟩
