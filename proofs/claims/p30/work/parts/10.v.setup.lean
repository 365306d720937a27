/-! READING: the setup under way, numbers, signs, zones, bands -/
/-- the heap h with the setup at s: numbers q, rows a, heat at t -/
def SP (h : AH) (s : Nat) (q : Nat → Int32) (a : Nat → Nat → Int32) (t : Nat) : AH := (h.1, h.2.1, h.2.2.1, fun i k => if i = s then (if k = 0 then .int (q 0) else if k = 1 then .int (q 1) else if k = 2 then .int (q 2) else if k = 10 then .ref t else h.2.2.2.1 i k) else h.2.2.2.1 i k, fun i => if s < i ∧ i ≤ s + 7 then a (i - s) else h.2.2.2.2.1 i, h.2.2.2.2.2)
def SBc (h : AH) (T : Nat → Bool) (s : Nat) : Prop := (∀ j, j ≤ 7 → own (s + j) = false ∧ T (s + j) = false) ∧ hk h s = 4 ∧ ∀ j, 1 ≤ j → j ≤ 7 → hF h s (j + 2) = .ref (s + j) ∧ hk h (s + j) = 10 ∧ hl h (s + j) = (if j ≤ 5 then 6 else 20)
/-- the heat at t: n steps pg -/
def HTp (h : AH) (T : Nat → Bool) (t n : Nat) (pg : Nat → Int32) : Prop := (own t = false ∧ own (t + 1) = false ∧ own (t + 2) = false) ∧ (T (t + 1) = false ∧ T (t + 2) = true) ∧ (hk h t = 1 ∧ hF h t 0 = .ref (t + 1) ∧ hF h t 1 = .ref (t + 2) ∧ hk h (t + 1) = 10 ∧ hl h (t + 1) = n ∧ hA h (t + 1) = pg ∧ hk h (t + 2) = 10 ∧ hl h (t + 2) = 11) ∧ n ≤ 700
section SP1
variable {h : AH} {T : Nat → Bool} {s t u j n : Nat} {q pg : Nat → Int32} {a : Nat → Nat → Int32} {v : Int32} {f : Nat → Int32}
theorem sp_wA (h1 : 1 ≤ j) (h2 : j ≤ 7) : wA (SP h s q a t) (s + j) f = SP h s q (upf a j f) t := by
  refine ah_ext rfl rfl (fun _ => rfl) (fun _ _ => rfl) (fun i => ?_) (fun _ => rfl) (fun _ => rfl) rfl
  show (if i = s + j then f else if s < i ∧ i ≤ s + 7 then a (i - s) else h.2.2.2.2.1 i) = (if s < i ∧ i ≤ s + 7 then upf a j f (i - s) else h.2.2.2.2.1 i)
  by_cases e : i = s + j
  · subst e
    rw [if_pos rfl, if_pos ⟨by omega, by omega⟩, Nat.add_sub_cancel_left, upf_same]
  · rw [if_neg e]
    by_cases e2 : s < i ∧ i ≤ s + 7
    · rw [if_pos e2, if_pos e2, upf_ne a f (by omega)]
    · rw [if_neg e2, if_neg e2]
theorem sp_w10 : wF (SP h s q a t) s 10 (.ref u) = SP h s q a u := by
  refine ah_ext rfl rfl (fun _ => rfl) (fun i k => ?_) (fun _ => rfl) (fun _ => rfl) (fun _ => rfl) rfl
  show (if i = s ∧ k = 10 then Value.ref u else if i = s then (if k = 0 then .int (q 0) else if k = 1 then .int (q 1) else if k = 2 then .int (q 2) else if k = 10 then .ref t else h.2.2.2.1 i k) else h.2.2.2.1 i k) = (if i = s then (if k = 0 then .int (q 0) else if k = 1 then .int (q 1) else if k = 2 then .int (q 2) else if k = 10 then .ref u else h.2.2.2.1 i k) else h.2.2.2.1 i k)
  by_cases e : i = s
  · by_cases e0 : k = 10
    · simp [e, e0]
    · simp [e, e0]
  · simp [e]
theorem sup_of (hs : SBc h T s) (ht : HTp h T t n pg) (hst : s + 8 ≤ t) (hq : 0 ≤ q 0 ∧ zn (q 0) ≤ 6) : SUp (SP h s q a t) T s t q a n pg := by
  have f : ∀ i k, ¬ i = s → hF (SP h s q a t) i k = hF h i k := fun i k hi => if_neg hi
  have g : ∀ i, ¬ (s < i ∧ i ≤ s + 7) → hA (SP h s q a t) i = hA h i := fun i hi => if_neg hi
  obtain ⟨h1, h2, h3⟩ := hs
  obtain ⟨t1, t2, ⟨t3, t4, t5, t6, t7, t8, t9, t10⟩, t11⟩ := ht
  refine ⟨h1, t1, t2, ⟨h2, (if_pos rfl).trans (if_pos rfl), (if_pos rfl).trans rfl, (if_pos rfl).trans rfl, (if_pos rfl).trans rfl⟩, fun j j1 j7 => ⟨?_, (h3 j j1 j7).2.1, (h3 j j1 j7).2.2, ?_⟩, ⟨t3, ?_, ?_, t6, t7, ?_, t9, t10⟩, hq, t11⟩
  · refine Eq.trans ?_ (h3 j j1 j7).1
    show (if s = s then (if j + 2 = 0 then Value.int (q 0) else if j + 2 = 1 then .int (q 1) else if j + 2 = 2 then .int (q 2) else if j + 2 = 10 then .ref t else h.2.2.2.1 s (j + 2)) else h.2.2.2.1 s (j + 2)) = h.2.2.2.1 s (j + 2)
    rw [if_pos rfl, if_neg (by omega), if_neg (by omega), if_neg (by omega), if_neg (by omega)]
  · show (if s < s + j ∧ s + j ≤ s + 7 then a (s + j - s) else h.2.2.2.2.1 (s + j)) = a j
    rw [if_pos ⟨by omega, by omega⟩, Nat.add_sub_cancel_left]
  · rw [f t 0 (by omega)]; exact t4
  · rw [f t 1 (by omega)]; exact t5
  · rw [g (t + 1) (by omega)]; exact t8
theorem sp_w0 : wF (SP h s q a t) s 0 (.int v) = SP h s (upf q 0 v) a t := by
  refine ah_ext rfl rfl (fun _ => rfl) (fun i k => ?_) (fun _ => rfl) (fun _ => rfl) (fun _ => rfl) rfl
  show (if i = s ∧ k = 0 then Value.int v else if i = s then (if k = 0 then .int (q 0) else if k = 1 then .int (q 1) else if k = 2 then .int (q 2) else if k = 10 then .ref t else h.2.2.2.1 i k) else h.2.2.2.1 i k) = (if i = s then (if k = 0 then .int (upf q 0 v 0) else if k = 1 then .int (upf q 0 v 1) else if k = 2 then .int (upf q 0 v 2) else if k = 10 then .ref t else h.2.2.2.1 i k) else h.2.2.2.1 i k)
  by_cases e : i = s
  · by_cases e0 : k = 0
    · simp [e, e0, upf]
    · simp [e, e0, upf]
  · simp [e]
theorem sp_w1 : wF (SP h s q a t) s 1 (.int v) = SP h s (upf q 1 v) a t := by
  refine ah_ext rfl rfl (fun _ => rfl) (fun i k => ?_) (fun _ => rfl) (fun _ => rfl) (fun _ => rfl) rfl
  show (if i = s ∧ k = 1 then Value.int v else if i = s then (if k = 0 then .int (q 0) else if k = 1 then .int (q 1) else if k = 2 then .int (q 2) else if k = 10 then .ref t else h.2.2.2.1 i k) else h.2.2.2.1 i k) = (if i = s then (if k = 0 then .int (upf q 1 v 0) else if k = 1 then .int (upf q 1 v 1) else if k = 2 then .int (upf q 1 v 2) else if k = 10 then .ref t else h.2.2.2.1 i k) else h.2.2.2.1 i k)
  by_cases e : i = s
  · by_cases e0 : k = 1
    · simp [e, e0, upf]
    · simp [e, e0, upf]
  · simp [e]
theorem sp_w2 : wF (SP h s q a t) s 2 (.int v) = SP h s (upf q 2 v) a t := by
  refine ah_ext rfl rfl (fun _ => rfl) (fun i k => ?_) (fun _ => rfl) (fun _ => rfl) (fun _ => rfl) rfl
  show (if i = s ∧ k = 2 then Value.int v else if i = s then (if k = 0 then .int (q 0) else if k = 1 then .int (q 1) else if k = 2 then .int (q 2) else if k = 10 then .ref t else h.2.2.2.1 i k) else h.2.2.2.1 i k) = (if i = s then (if k = 0 then .int (upf q 2 v 0) else if k = 1 then .int (upf q 2 v 1) else if k = 2 then .int (upf q 2 v 2) else if k = 10 then .ref t else h.2.2.2.1 i k) else h.2.2.2.1 i k)
  by_cases e : i = s
  · by_cases e0 : k = 2
    · simp [e, e0, upf]
    · simp [e, e0, upf]
  · simp [e]
end SP1
def zC (c : HP) (s : Nat) (q : Nat → Int32) (a : Nat → Nat → Int32) (t : Nat) : HP := (SP c.1 s q a t, c.2)
section ZC
variable {c : HP} {s t u : Nat} {q r st f : Nat → Int32} {a : Nat → Nat → Int32} {v : Int32}
theorem c_f9 : hF (cH c r st) 13 9 = .ref (c.2.2.2.2.2.2 13) := f_13_9
theorem z_g (hG : c.2.2.2.2.2.2 13 = s) : hF (cH (zC c s q a t) r st) 13 9 = .ref s := f_13_9.trans (congrArg Value.ref hG)
theorem z_k (hs : SBc c.1 c.2.1 s) : hk (cH (zC c s q a t) r st) s = 4 := (mh_kn (hs.1 0 (by omega)).1).trans hs.2.1
theorem z_w10 (hs : SBc c.1 c.2.1 s) : wF (cH (zC c s q a t) r st) s 10 (.ref u) = cH (zC c s q a u) r st := (mh_wFn (hs.1 0 (by omega)).1).trans (by show MH (wF (SP c.1 s q a t) s 10 (.ref u)) _ _ _ _ _ _ = _; rw [sp_w10]; rfl)
theorem z_0 (hs : SBc c.1 c.2.1 s) : hF (cH (zC c s q a t) r st) s 0 = .int (q 0) := (mh_Fn (hs.1 0 (by omega)).1).trans ((if_pos rfl).trans (if_pos rfl))
theorem z_w0 (hs : SBc c.1 c.2.1 s) : wF (cH (zC c s q a t) r st) s 0 (.int v) = cH (zC c s (upf q 0 v) a t) r st := (mh_wFn (hs.1 0 (by omega)).1).trans (by show MH (wF (SP c.1 s q a t) s 0 (.int v)) _ _ _ _ _ _ = _; rw [sp_w0]; rfl)
theorem z_1 (hs : SBc c.1 c.2.1 s) : hF (cH (zC c s q a t) r st) s 1 = .int (q 1) := (mh_Fn (hs.1 0 (by omega)).1).trans ((if_pos rfl).trans rfl)
theorem z_w1 (hs : SBc c.1 c.2.1 s) : wF (cH (zC c s q a t) r st) s 1 (.int v) = cH (zC c s (upf q 1 v) a t) r st := (mh_wFn (hs.1 0 (by omega)).1).trans (by show MH (wF (SP c.1 s q a t) s 1 (.int v)) _ _ _ _ _ _ = _; rw [sp_w1]; rfl)
theorem z_2 (hs : SBc c.1 c.2.1 s) : hF (cH (zC c s q a t) r st) s 2 = .int (q 2) := (mh_Fn (hs.1 0 (by omega)).1).trans ((if_pos rfl).trans rfl)
theorem z_w2 (hs : SBc c.1 c.2.1 s) : wF (cH (zC c s q a t) r st) s 2 (.int v) = cH (zC c s (upf q 2 v) a t) r st := (mh_wFn (hs.1 0 (by omega)).1).trans (by show MH (wF (SP c.1 s q a t) s 2 (.int v)) _ _ _ _ _ _ = _; rw [sp_w2]; rfl)
theorem z_f3 (hs : SBc c.1 c.2.1 s) : hF (cH (zC c s q a t) r st) s 3 = .ref (s + 1) := (mh_Fn (hs.1 0 (by omega)).1).trans (((if_pos rfl).trans rfl).trans (hs.2.2 1 (by omega) (by omega)).1)
theorem z_k1 (hs : SBc c.1 c.2.1 s) : hk (cH (zC c s q a t) r st) (s + 1) = 10 := (mh_kn (hs.1 1 (by omega)).1).trans (hs.2.2 1 (by omega) (by omega)).2.1
theorem z_l1 (hs : SBc c.1 c.2.1 s) : hl (cH (zC c s q a t) r st) (s + 1) = 6 := (mh_ln (hs.1 1 (by omega)).1).trans (hs.2.2 1 (by omega) (by omega)).2.2
theorem z_a1 (hs : SBc c.1 c.2.1 s) : hA (cH (zC c s q a t) r st) (s + 1) = a 1 := (mh_An (hs.1 1 (by omega)).1 (hs.1 1 (by omega)).2).trans (by show (if s < s + 1 ∧ s + 1 ≤ s + 7 then a (s + 1 - s) else _) = a 1; rw [if_pos ⟨by omega, by omega⟩, Nat.add_sub_cancel_left])
theorem z_wa1 (hs : SBc c.1 c.2.1 s) : wA (cH (zC c s q a t) r st) (s + 1) f = cH (zC c s q (upf a 1 f) t) r st := (mh_wAn (hs.1 1 (by omega)).1 (hs.1 1 (by omega)).2).trans (by show MH (wA (SP c.1 s q a t) (s + 1) f) _ _ _ _ _ _ = _; rw [sp_wA (by omega) (by omega)]; rfl)
theorem z_f4 (hs : SBc c.1 c.2.1 s) : hF (cH (zC c s q a t) r st) s 4 = .ref (s + 2) := (mh_Fn (hs.1 0 (by omega)).1).trans (((if_pos rfl).trans rfl).trans (hs.2.2 2 (by omega) (by omega)).1)
theorem z_k2 (hs : SBc c.1 c.2.1 s) : hk (cH (zC c s q a t) r st) (s + 2) = 10 := (mh_kn (hs.1 2 (by omega)).1).trans (hs.2.2 2 (by omega) (by omega)).2.1
theorem z_l2 (hs : SBc c.1 c.2.1 s) : hl (cH (zC c s q a t) r st) (s + 2) = 6 := (mh_ln (hs.1 2 (by omega)).1).trans (hs.2.2 2 (by omega) (by omega)).2.2
theorem z_a2 (hs : SBc c.1 c.2.1 s) : hA (cH (zC c s q a t) r st) (s + 2) = a 2 := (mh_An (hs.1 2 (by omega)).1 (hs.1 2 (by omega)).2).trans (by show (if s < s + 2 ∧ s + 2 ≤ s + 7 then a (s + 2 - s) else _) = a 2; rw [if_pos ⟨by omega, by omega⟩, Nat.add_sub_cancel_left])
theorem z_wa2 (hs : SBc c.1 c.2.1 s) : wA (cH (zC c s q a t) r st) (s + 2) f = cH (zC c s q (upf a 2 f) t) r st := (mh_wAn (hs.1 2 (by omega)).1 (hs.1 2 (by omega)).2).trans (by show MH (wA (SP c.1 s q a t) (s + 2) f) _ _ _ _ _ _ = _; rw [sp_wA (by omega) (by omega)]; rfl)
theorem z_f5 (hs : SBc c.1 c.2.1 s) : hF (cH (zC c s q a t) r st) s 5 = .ref (s + 3) := (mh_Fn (hs.1 0 (by omega)).1).trans (((if_pos rfl).trans rfl).trans (hs.2.2 3 (by omega) (by omega)).1)
theorem z_k3 (hs : SBc c.1 c.2.1 s) : hk (cH (zC c s q a t) r st) (s + 3) = 10 := (mh_kn (hs.1 3 (by omega)).1).trans (hs.2.2 3 (by omega) (by omega)).2.1
theorem z_l3 (hs : SBc c.1 c.2.1 s) : hl (cH (zC c s q a t) r st) (s + 3) = 6 := (mh_ln (hs.1 3 (by omega)).1).trans (hs.2.2 3 (by omega) (by omega)).2.2
theorem z_a3 (hs : SBc c.1 c.2.1 s) : hA (cH (zC c s q a t) r st) (s + 3) = a 3 := (mh_An (hs.1 3 (by omega)).1 (hs.1 3 (by omega)).2).trans (by show (if s < s + 3 ∧ s + 3 ≤ s + 7 then a (s + 3 - s) else _) = a 3; rw [if_pos ⟨by omega, by omega⟩, Nat.add_sub_cancel_left])
theorem z_wa3 (hs : SBc c.1 c.2.1 s) : wA (cH (zC c s q a t) r st) (s + 3) f = cH (zC c s q (upf a 3 f) t) r st := (mh_wAn (hs.1 3 (by omega)).1 (hs.1 3 (by omega)).2).trans (by show MH (wA (SP c.1 s q a t) (s + 3) f) _ _ _ _ _ _ = _; rw [sp_wA (by omega) (by omega)]; rfl)
theorem z_f6 (hs : SBc c.1 c.2.1 s) : hF (cH (zC c s q a t) r st) s 6 = .ref (s + 4) := (mh_Fn (hs.1 0 (by omega)).1).trans (((if_pos rfl).trans rfl).trans (hs.2.2 4 (by omega) (by omega)).1)
theorem z_k4 (hs : SBc c.1 c.2.1 s) : hk (cH (zC c s q a t) r st) (s + 4) = 10 := (mh_kn (hs.1 4 (by omega)).1).trans (hs.2.2 4 (by omega) (by omega)).2.1
theorem z_l4 (hs : SBc c.1 c.2.1 s) : hl (cH (zC c s q a t) r st) (s + 4) = 6 := (mh_ln (hs.1 4 (by omega)).1).trans (hs.2.2 4 (by omega) (by omega)).2.2
theorem z_a4 (hs : SBc c.1 c.2.1 s) : hA (cH (zC c s q a t) r st) (s + 4) = a 4 := (mh_An (hs.1 4 (by omega)).1 (hs.1 4 (by omega)).2).trans (by show (if s < s + 4 ∧ s + 4 ≤ s + 7 then a (s + 4 - s) else _) = a 4; rw [if_pos ⟨by omega, by omega⟩, Nat.add_sub_cancel_left])
theorem z_wa4 (hs : SBc c.1 c.2.1 s) : wA (cH (zC c s q a t) r st) (s + 4) f = cH (zC c s q (upf a 4 f) t) r st := (mh_wAn (hs.1 4 (by omega)).1 (hs.1 4 (by omega)).2).trans (by show MH (wA (SP c.1 s q a t) (s + 4) f) _ _ _ _ _ _ = _; rw [sp_wA (by omega) (by omega)]; rfl)
theorem z_f7 (hs : SBc c.1 c.2.1 s) : hF (cH (zC c s q a t) r st) s 7 = .ref (s + 5) := (mh_Fn (hs.1 0 (by omega)).1).trans (((if_pos rfl).trans rfl).trans (hs.2.2 5 (by omega) (by omega)).1)
theorem z_k5 (hs : SBc c.1 c.2.1 s) : hk (cH (zC c s q a t) r st) (s + 5) = 10 := (mh_kn (hs.1 5 (by omega)).1).trans (hs.2.2 5 (by omega) (by omega)).2.1
theorem z_l5 (hs : SBc c.1 c.2.1 s) : hl (cH (zC c s q a t) r st) (s + 5) = 6 := (mh_ln (hs.1 5 (by omega)).1).trans (hs.2.2 5 (by omega) (by omega)).2.2
theorem z_a5 (hs : SBc c.1 c.2.1 s) : hA (cH (zC c s q a t) r st) (s + 5) = a 5 := (mh_An (hs.1 5 (by omega)).1 (hs.1 5 (by omega)).2).trans (by show (if s < s + 5 ∧ s + 5 ≤ s + 7 then a (s + 5 - s) else _) = a 5; rw [if_pos ⟨by omega, by omega⟩, Nat.add_sub_cancel_left])
theorem z_wa5 (hs : SBc c.1 c.2.1 s) : wA (cH (zC c s q a t) r st) (s + 5) f = cH (zC c s q (upf a 5 f) t) r st := (mh_wAn (hs.1 5 (by omega)).1 (hs.1 5 (by omega)).2).trans (by show MH (wA (SP c.1 s q a t) (s + 5) f) _ _ _ _ _ _ = _; rw [sp_wA (by omega) (by omega)]; rfl)
theorem z_f8 (hs : SBc c.1 c.2.1 s) : hF (cH (zC c s q a t) r st) s 8 = .ref (s + 6) := (mh_Fn (hs.1 0 (by omega)).1).trans (((if_pos rfl).trans rfl).trans (hs.2.2 6 (by omega) (by omega)).1)
theorem z_k6 (hs : SBc c.1 c.2.1 s) : hk (cH (zC c s q a t) r st) (s + 6) = 10 := (mh_kn (hs.1 6 (by omega)).1).trans (hs.2.2 6 (by omega) (by omega)).2.1
theorem z_l6 (hs : SBc c.1 c.2.1 s) : hl (cH (zC c s q a t) r st) (s + 6) = 20 := (mh_ln (hs.1 6 (by omega)).1).trans (hs.2.2 6 (by omega) (by omega)).2.2
theorem z_a6 (hs : SBc c.1 c.2.1 s) : hA (cH (zC c s q a t) r st) (s + 6) = a 6 := (mh_An (hs.1 6 (by omega)).1 (hs.1 6 (by omega)).2).trans (by show (if s < s + 6 ∧ s + 6 ≤ s + 7 then a (s + 6 - s) else _) = a 6; rw [if_pos ⟨by omega, by omega⟩, Nat.add_sub_cancel_left])
theorem z_wa6 (hs : SBc c.1 c.2.1 s) : wA (cH (zC c s q a t) r st) (s + 6) f = cH (zC c s q (upf a 6 f) t) r st := (mh_wAn (hs.1 6 (by omega)).1 (hs.1 6 (by omega)).2).trans (by show MH (wA (SP c.1 s q a t) (s + 6) f) _ _ _ _ _ _ = _; rw [sp_wA (by omega) (by omega)]; rfl)
theorem z_f9 (hs : SBc c.1 c.2.1 s) : hF (cH (zC c s q a t) r st) s 9 = .ref (s + 7) := (mh_Fn (hs.1 0 (by omega)).1).trans (((if_pos rfl).trans rfl).trans (hs.2.2 7 (by omega) (by omega)).1)
theorem z_k7 (hs : SBc c.1 c.2.1 s) : hk (cH (zC c s q a t) r st) (s + 7) = 10 := (mh_kn (hs.1 7 (by omega)).1).trans (hs.2.2 7 (by omega) (by omega)).2.1
theorem z_l7 (hs : SBc c.1 c.2.1 s) : hl (cH (zC c s q a t) r st) (s + 7) = 20 := (mh_ln (hs.1 7 (by omega)).1).trans (hs.2.2 7 (by omega) (by omega)).2.2
theorem z_a7 (hs : SBc c.1 c.2.1 s) : hA (cH (zC c s q a t) r st) (s + 7) = a 7 := (mh_An (hs.1 7 (by omega)).1 (hs.1 7 (by omega)).2).trans (by show (if s < s + 7 ∧ s + 7 ≤ s + 7 then a (s + 7 - s) else _) = a 7; rw [if_pos ⟨by omega, by omega⟩, Nat.add_sub_cancel_left])
theorem z_wa7 (hs : SBc c.1 c.2.1 s) : wA (cH (zC c s q a t) r st) (s + 7) f = cH (zC c s q (upf a 7 f) t) r st := (mh_wAn (hs.1 7 (by omega)).1 (hs.1 7 (by omega)).2).trans (by show MH (wA (SP c.1 s q a t) (s + 7) f) _ _ _ _ _ _ = _; rw [sp_wA (by omega) (by omega)]; rfl)
end ZC
def zW (a : Nat → Nat → Int32) (z : Nat) (v1 v2 v3 v4 v5 : Int32) : Nat → Nat → Int32 := upf (upf (upf (upf (upf a 1 (upd (a 1) z v1)) 2 (upd (a 2) z v2)) 3 (upd (a 3) z v3)) 4 (upd (a 4) z v4)) 5 (upd (a 5) z v5)
def bW (a : Nat → Nat → Int32) (k : Nat) (v1 v2 : Int32) : Nat → Nat → Int32 := upf (upf a 6 (upd (a 6) k v1)) 7 (upd (a 7) k v2)
