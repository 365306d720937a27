/-! READING: new setups, new heats -/
theorem mh_alO {h : AH} {T : Nat → Bool} {U S A : Nat → Nat → Int32} {J : Nat → Nat → Int64} {G : Nat → Nat} {kd n : Nat} {fs : Nat → Value} (ho : own (hN h) = false) : alO (MH h T U S A J G) kd n fs = MH (alO h kd n fs) T U S A J G := by
  have ho : own h.1 = false := ho
  refine ah_ext rfl rfl (fun i => ?_) (fun i k => ?_) (fun _ => rfl) (fun _ => rfl) (fun _ => rfl) rfl
  · show (if i = h.1 then (kd, n) else if own i = true then okl i else h.2.2.1 i) = (if own i = true then okl i else if i = h.1 then (kd, n) else h.2.2.1 i)
    by_cases e : i = h.1
    · rw [if_pos e, e, ho]
      exact (if_pos rfl).symm
    · rw [if_neg e, if_neg e]
  · show (if i = h.1 then fs else fun k => if own i = true then oF1 S G i k else h.2.2.2.1 i k) k = (if own i = true then oF1 S G i k else (if i = h.1 then fs else h.2.2.2.1 i) k)
    by_cases e : i = h.1
    · rw [if_pos e, if_pos e, e, ho]
      rfl
    · rw [if_neg e, if_neg e]
theorem mh_alA {h : AH} {T : Nat → Bool} {U S A : Nat → Nat → Int32} {J : Nat → Nat → Int64} {G : Nat → Nat} {kd n : Nat} (ho : own (hN h) = false) (hT : T (hN h) = false) : alA (MH h T U S A J G) kd n = MH (alA h kd n) T U S A J G := by
  have ho : own h.1 = false := ho
  have hT : T h.1 = false := hT
  refine ah_ext rfl rfl (fun i => ?_) (fun _ _ => rfl) (fun i => ?_) (fun i => ?_) (fun i => ?_) rfl
  · show (if i = h.1 then (kd, n) else if own i = true then okl i else h.2.2.1 i) = (if own i = true then okl i else if i = h.1 then (kd, n) else h.2.2.1 i)
    by_cases e : i = h.1
    · rw [if_pos e, e, ho]
      exact (if_pos rfl).symm
    · rw [if_neg e, if_neg e]
  · show (if i = h.1 then (fun _ => 0) else if own i = true then A i else if T i = true then U i else h.2.2.2.2.1 i) = (if own i = true then A i else if T i = true then U i else if i = h.1 then (fun _ => 0) else h.2.2.2.2.1 i)
    by_cases e : i = h.1
    · rw [if_pos e, e, ho, hT]
      exact (if_pos rfl).symm
    · rw [if_neg e, if_neg e]
  · show (if i = h.1 then (fun _ => 0) else if own i = true then J i else h.2.2.2.2.2.1 i) = (if own i = true then J i else if i = h.1 then (fun _ => 0) else h.2.2.2.2.2.1 i)
    by_cases e : i = h.1
    · rw [if_pos e, e, ho]
      exact (if_pos rfl).symm
    · rw [if_neg e, if_neg e]
  · show (if i = h.1 then (fun _ => none) else if own i = true then oR1 i else h.2.2.2.2.2.2.1 i) = (if own i = true then oR1 i else if i = h.1 then (fun _ => none) else h.2.2.2.2.2.2.1 i)
    by_cases e : i = h.1
    · rw [if_pos e, e, ho]
      exact (if_pos rfl).symm
    · rw [if_neg e, if_neg e]
def tAdd (T : Nat → Bool) (x : Nat) : Nat → Bool := fun i => T i || decide (i = x)
theorem mh_T {h : AH} {T : Nat → Bool} {U S A : Nat → Nat → Int32} {J : Nat → Nat → Int64} {G : Nat → Nat} {x : Nat} (hT : T x = false) : MH h T U S A J G = MH h (tAdd T x) (upf U x (hA h x)) S A J G := by
  refine ah_ext rfl rfl (fun _ => rfl) (fun _ _ => rfl) (fun i => ?_) (fun _ => rfl) (fun _ => rfl) rfl
  show (if own i = true then A i else if T i = true then U i else h.2.2.2.2.1 i) = (if own i = true then A i else if (T i || decide (i = x)) = true then upf U x (hA h x) i else h.2.2.2.2.1 i)
  by_cases ho : own i = true
  · rw [if_pos ho, if_pos ho]
  · rw [if_neg ho, if_neg ho]
    by_cases e : i = x
    · subst e
      rw [hT, if_neg Bool.false_ne_true, if_pos (by simp), upf_same]
      rfl
    · rw [upf_ne U _ e, decide_eq_false e, Bool.or_false]
/-- what lies below N is the same -/
def fr (N : Nat) (h h' : AH) : Prop := ∀ i, i < N → h'.2.2.1 i = h.2.2.1 i ∧ (∀ k, h'.2.2.2.1 i k = h.2.2.2.1 i k) ∧ h'.2.2.2.2.1 i = h.2.2.2.2.1 i
def frT (N : Nat) (T T' : Nat → Bool) : Prop := ∀ i, i < N → T' i = T i
section FR1
variable {h h' h'' : AH} {T T' T'' : Nat → Bool} {N M s t n a k kd x : Nat} {q pg : Nat → Int32} {aa : Nat → Nat → Int32} {v : Value} {f : Nat → Int32} {fs : Nat → Value}
theorem fr_id : fr N h h := fun _ _ => ⟨rfl, fun _ => rfl, rfl⟩
theorem fr_tr (h1 : fr N h h') (h2 : fr M h' h'') (hNM : N ≤ M) : fr N h h'' := fun i hi =>
  have a := h1 i hi
  have b := h2 i (by omega)
  ⟨b.1.trans a.1, fun k => (b.2.1 k).trans (a.2.1 k), b.2.2.trans a.2.2⟩
theorem fr_le (h1 : fr M h h') (hNM : N ≤ M) : fr N h h' := fun i hi => h1 i (by omega)
theorem fr_alO (hn : N ≤ hN h) : fr N h (alO h kd n fs) := fun i hi => ⟨if_neg (by have : N ≤ h.1 := hn; omega), fun k => congrFun (if_neg (by have : N ≤ h.1 := hn; omega)) k, rfl⟩
theorem fr_alA (hn : N ≤ hN h) : fr N h (alA h kd n) := fun i hi => ⟨if_neg (by have : N ≤ h.1 := hn; omega), fun k => rfl, if_neg (by have : N ≤ h.1 := hn; omega)⟩
theorem fr_wF (hn : N ≤ a) : fr N h (wF h a k v) := fun i hi => ⟨rfl, fun k => if_neg (by omega), rfl⟩
theorem fr_wA (hn : N ≤ a) : fr N h (wA h a f) := fun i hi => ⟨rfl, fun k => rfl, if_neg (by omega)⟩
theorem fr_SP (hn : N ≤ s) : fr N h (SP h s q aa t) := fun i hi => ⟨rfl, fun k => if_neg (by omega), if_neg (by omega)⟩
theorem frT_add (hn : N ≤ x) : frT N T (tAdd T x) := fun i hi => by
  unfold tAdd
  rw [decide_eq_false (by omega), Bool.or_false]
theorem fr_k (h1 : fr N h h') {i : Nat} (hi : i < N) : hk h' i = hk h i := congrArg Prod.fst (h1 i hi).1
theorem fr_l (h1 : fr N h h') {i : Nat} (hi : i < N) : hl h' i = hl h i := congrArg Prod.snd (h1 i hi).1
theorem fr_f (h1 : fr N h h') {i k : Nat} (hi : i < N) : hF h' i k = hF h i k := (h1 i hi).2.1 k
theorem fr_a (h1 : fr N h h') {i : Nat} (hi : i < N) : hA h' i = hA h i := (h1 i hi).2.2
theorem SBc_fr (h1 : fr N h h') (h2 : frT N T T') (hs : SBc h T s) (hN1 : s + 7 < N) : SBc h' T' s :=
  ⟨fun j hj => ⟨(hs.1 j hj).1, (h2 _ (by omega)).trans (hs.1 j hj).2⟩, (fr_k h1 (by omega)).trans hs.2.1, fun j j1 j7 => ⟨(fr_f h1 (by omega)).trans (hs.2.2 j j1 j7).1, (fr_k h1 (by omega)).trans (hs.2.2 j j1 j7).2.1, (fr_l h1 (by omega)).trans (hs.2.2 j j1 j7).2.2⟩⟩
theorem HTp_fr (h1 : fr N h h') (h2 : frT N T T') (ht : HTp h T t n pg) (hN1 : t + 2 < N) : HTp h' T' t n pg := by
  obtain ⟨a1, ⟨b1, b2⟩, ⟨c1, c2, c3, c4, c5, c6, c7, c8⟩, e⟩ := ht
  exact ⟨a1, ⟨(h2 _ (by omega)).trans b1, (h2 _ (by omega)).trans b2⟩, ⟨(fr_k h1 (by omega)).trans c1, (fr_f h1 (by omega)).trans c2, (fr_f h1 (by omega)).trans c3, (fr_k h1 (by omega)).trans c4, (fr_l h1 (by omega)).trans c5, (fr_a h1 (by omega)).trans c6, (fr_k h1 (by omega)).trans c7, (fr_l h1 (by omega)).trans c8⟩, e⟩
theorem SUp_fr (h1 : fr N h h') (h2 : frT N T T') (hs : SUp h T s t q aa n pg) (hN1 : s + 7 < N) (hN2 : t + 2 < N) : SUp h' T' s t q aa n pg := by
  obtain ⟨a1, a2, ⟨b1, b2⟩, ⟨c1, c2, c3, c4, c5⟩, e, ⟨f1, f2, f3, f4, f5, f6, f7, f8⟩, g⟩ := hs
  exact ⟨fun j hj => ⟨(a1 j hj).1, (h2 _ (by omega)).trans (a1 j hj).2⟩, a2, ⟨(h2 _ (by omega)).trans b1, (h2 _ (by omega)).trans b2⟩, ⟨(fr_k h1 (by omega)).trans c1, (fr_f h1 (by omega)).trans c2, (fr_f h1 (by omega)).trans c3, (fr_f h1 (by omega)).trans c4, (fr_f h1 (by omega)).trans c5⟩,
    fun j j1 j7 => ⟨(fr_f h1 (by omega)).trans (e j j1 j7).1, (fr_k h1 (by omega)).trans (e j j1 j7).2.1, (fr_l h1 (by omega)).trans (e j j1 j7).2.2.1, (fr_a h1 (by omega)).trans (e j j1 j7).2.2.2⟩,
    ⟨(fr_k h1 (by omega)).trans f1, (fr_f h1 (by omega)).trans f2, (fr_f h1 (by omega)).trans f3, (fr_k h1 (by omega)).trans f4, (fr_l h1 (by omega)).trans f5, (fr_a h1 (by omega)).trans f6, (fr_k h1 (by omega)).trans f7, (fr_l h1 (by omega)).trans f8⟩, g⟩
end FR1
/-! heaps: what an instruction changes -/
section AO1
variable {h : AH} {kd n i j k a : Nat} {v : Value} {f : Nat → Int32} {fs : Nat → Value}
theorem oN_O : hN (alO h kd n fs) = hN h + 1 := rfl
theorem oN_A : hN (alA h kd n) = hN h + 1 := rfl
theorem oN_F : hN (wF h a k v) = hN h := rfl
theorem oN_W : hN (wA h a f) = hN h := rfl
theorem ok_O : hk (alO h kd n fs) i = if i = hN h then kd else hk h i := by
  show (if i = h.1 then (kd, n) else h.2.2.1 i).1 = _
  split <;> rename_i e
  · exact (if_pos e).symm
  · exact (if_neg e).symm
theorem ok_A : hk (alA h kd n) i = if i = hN h then kd else hk h i := by
  show (if i = h.1 then (kd, n) else h.2.2.1 i).1 = _
  split <;> rename_i e
  · exact (if_pos e).symm
  · exact (if_neg e).symm
theorem ok_F : hk (wF h a k v) i = hk h i := rfl
theorem ok_W : hk (wA h a f) i = hk h i := rfl
theorem ol_O : hl (alO h kd n fs) i = if i = hN h then n else hl h i := by
  show (if i = h.1 then (kd, n) else h.2.2.1 i).2 = _
  split <;> rename_i e
  · exact (if_pos e).symm
  · exact (if_neg e).symm
theorem ol_A : hl (alA h kd n) i = if i = hN h then n else hl h i := by
  show (if i = h.1 then (kd, n) else h.2.2.1 i).2 = _
  split <;> rename_i e
  · exact (if_pos e).symm
  · exact (if_neg e).symm
theorem ol_F : hl (wF h a k v) i = hl h i := rfl
theorem ol_W : hl (wA h a f) i = hl h i := rfl
theorem of_O : hF (alO h kd n fs) i j = if i = hN h then fs j else hF h i j := by
  show (if i = h.1 then fs else h.2.2.2.1 i) j = _
  split <;> rename_i e
  · exact (if_pos e).symm
  · exact (if_neg e).symm
theorem of_A : hF (alA h kd n) i j = hF h i j := rfl
theorem of_F : hF (wF h a k v) i j = if i = a ∧ j = k then v else hF h i j := rfl
theorem of_W : hF (wA h a f) i j = hF h i j := rfl
theorem oa_O : hA (alO h kd n fs) i = hA h i := rfl
theorem oa_A : hA (alA h kd n) i = if i = hN h then (fun _ => 0) else hA h i := rfl
theorem oa_F : hA (wF h a k v) i = hA h i := rfl
theorem oa_W : hA (wA h a f) i = if i = a then f else hA h i := rfl
theorem oS_O : hS (alO h kd n fs) = hS h + n := rfl
theorem oS_A : hS (alA h kd n) = hS h + n := rfl
theorem oS_F : hS (wF h a k v) = hS h := rfl
theorem oS_W : hS (wA h a f) = hS h := rfl
theorem oX_O : hX (alO h kd n fs) = hX h := rfl
theorem oX_A : hX (alA h kd n) = hX h := rfl
theorem oX_F : hX (wF h a k v) = hX h := rfl
theorem oX_W : hX (wA h a f) = hX h := rfl
theorem wA_cm {b : Nat} {g : Nat → Int32} (hab : ¬ a = b) : wA (wA h a f) b g = wA (wA h b g) a f := by
  refine ah_ext rfl rfl (fun _ => rfl) (fun _ _ => rfl) (fun i => ?_) (fun _ => rfl) (fun _ => rfl) rfl
  show (if i = b then g else if i = a then f else h.2.2.2.2.1 i) = (if i = a then f else if i = b then g else h.2.2.2.2.1 i)
  by_cases e1 : i = a
  · subst e1
    rw [if_neg hab, if_pos rfl, if_pos rfl]
  · rw [if_neg e1, if_neg e1]
end AO1
theorem sne_0_1 {s : Nat} : (s = s + 1) = False := eq_false (by omega)
theorem sne_0_2 {s : Nat} : (s = s + 2) = False := eq_false (by omega)
theorem sne_0_3 {s : Nat} : (s = s + 3) = False := eq_false (by omega)
theorem sne_0_4 {s : Nat} : (s = s + 4) = False := eq_false (by omega)
theorem sne_0_5 {s : Nat} : (s = s + 5) = False := eq_false (by omega)
theorem sne_0_6 {s : Nat} : (s = s + 6) = False := eq_false (by omega)
theorem sne_0_7 {s : Nat} : (s = s + 7) = False := eq_false (by omega)
theorem sne_0_8 {s : Nat} : (s = s + 8) = False := eq_false (by omega)
theorem sne_0_9 {s : Nat} : (s = s + 9) = False := eq_false (by omega)
theorem sne_0_10 {s : Nat} : (s = s + 10) = False := eq_false (by omega)
theorem sne_0_11 {s : Nat} : (s = s + 11) = False := eq_false (by omega)
theorem sne_1_0 {s : Nat} : (s + 1 = s) = False := eq_false (by omega)
theorem sne_1_2 {s : Nat} : (s + 1 = s + 2) = False := eq_false (by omega)
theorem sne_1_3 {s : Nat} : (s + 1 = s + 3) = False := eq_false (by omega)
theorem sne_1_4 {s : Nat} : (s + 1 = s + 4) = False := eq_false (by omega)
theorem sne_1_5 {s : Nat} : (s + 1 = s + 5) = False := eq_false (by omega)
theorem sne_1_6 {s : Nat} : (s + 1 = s + 6) = False := eq_false (by omega)
theorem sne_1_7 {s : Nat} : (s + 1 = s + 7) = False := eq_false (by omega)
theorem sne_1_8 {s : Nat} : (s + 1 = s + 8) = False := eq_false (by omega)
theorem sne_1_9 {s : Nat} : (s + 1 = s + 9) = False := eq_false (by omega)
theorem sne_1_10 {s : Nat} : (s + 1 = s + 10) = False := eq_false (by omega)
theorem sne_1_11 {s : Nat} : (s + 1 = s + 11) = False := eq_false (by omega)
theorem sne_2_0 {s : Nat} : (s + 2 = s) = False := eq_false (by omega)
theorem sne_2_1 {s : Nat} : (s + 2 = s + 1) = False := eq_false (by omega)
theorem sne_2_3 {s : Nat} : (s + 2 = s + 3) = False := eq_false (by omega)
theorem sne_2_4 {s : Nat} : (s + 2 = s + 4) = False := eq_false (by omega)
theorem sne_2_5 {s : Nat} : (s + 2 = s + 5) = False := eq_false (by omega)
theorem sne_2_6 {s : Nat} : (s + 2 = s + 6) = False := eq_false (by omega)
theorem sne_2_7 {s : Nat} : (s + 2 = s + 7) = False := eq_false (by omega)
theorem sne_2_8 {s : Nat} : (s + 2 = s + 8) = False := eq_false (by omega)
theorem sne_2_9 {s : Nat} : (s + 2 = s + 9) = False := eq_false (by omega)
theorem sne_2_10 {s : Nat} : (s + 2 = s + 10) = False := eq_false (by omega)
theorem sne_2_11 {s : Nat} : (s + 2 = s + 11) = False := eq_false (by omega)
theorem sne_3_0 {s : Nat} : (s + 3 = s) = False := eq_false (by omega)
theorem sne_3_1 {s : Nat} : (s + 3 = s + 1) = False := eq_false (by omega)
theorem sne_3_2 {s : Nat} : (s + 3 = s + 2) = False := eq_false (by omega)
theorem sne_3_4 {s : Nat} : (s + 3 = s + 4) = False := eq_false (by omega)
theorem sne_3_5 {s : Nat} : (s + 3 = s + 5) = False := eq_false (by omega)
theorem sne_3_6 {s : Nat} : (s + 3 = s + 6) = False := eq_false (by omega)
theorem sne_3_7 {s : Nat} : (s + 3 = s + 7) = False := eq_false (by omega)
theorem sne_3_8 {s : Nat} : (s + 3 = s + 8) = False := eq_false (by omega)
theorem sne_3_9 {s : Nat} : (s + 3 = s + 9) = False := eq_false (by omega)
theorem sne_3_10 {s : Nat} : (s + 3 = s + 10) = False := eq_false (by omega)
theorem sne_3_11 {s : Nat} : (s + 3 = s + 11) = False := eq_false (by omega)
theorem sne_4_0 {s : Nat} : (s + 4 = s) = False := eq_false (by omega)
theorem sne_4_1 {s : Nat} : (s + 4 = s + 1) = False := eq_false (by omega)
theorem sne_4_2 {s : Nat} : (s + 4 = s + 2) = False := eq_false (by omega)
theorem sne_4_3 {s : Nat} : (s + 4 = s + 3) = False := eq_false (by omega)
theorem sne_4_5 {s : Nat} : (s + 4 = s + 5) = False := eq_false (by omega)
theorem sne_4_6 {s : Nat} : (s + 4 = s + 6) = False := eq_false (by omega)
theorem sne_4_7 {s : Nat} : (s + 4 = s + 7) = False := eq_false (by omega)
theorem sne_4_8 {s : Nat} : (s + 4 = s + 8) = False := eq_false (by omega)
theorem sne_4_9 {s : Nat} : (s + 4 = s + 9) = False := eq_false (by omega)
theorem sne_4_10 {s : Nat} : (s + 4 = s + 10) = False := eq_false (by omega)
theorem sne_4_11 {s : Nat} : (s + 4 = s + 11) = False := eq_false (by omega)
theorem sne_5_0 {s : Nat} : (s + 5 = s) = False := eq_false (by omega)
theorem sne_5_1 {s : Nat} : (s + 5 = s + 1) = False := eq_false (by omega)
theorem sne_5_2 {s : Nat} : (s + 5 = s + 2) = False := eq_false (by omega)
theorem sne_5_3 {s : Nat} : (s + 5 = s + 3) = False := eq_false (by omega)
theorem sne_5_4 {s : Nat} : (s + 5 = s + 4) = False := eq_false (by omega)
theorem sne_5_6 {s : Nat} : (s + 5 = s + 6) = False := eq_false (by omega)
theorem sne_5_7 {s : Nat} : (s + 5 = s + 7) = False := eq_false (by omega)
theorem sne_5_8 {s : Nat} : (s + 5 = s + 8) = False := eq_false (by omega)
theorem sne_5_9 {s : Nat} : (s + 5 = s + 9) = False := eq_false (by omega)
theorem sne_5_10 {s : Nat} : (s + 5 = s + 10) = False := eq_false (by omega)
theorem sne_5_11 {s : Nat} : (s + 5 = s + 11) = False := eq_false (by omega)
theorem sne_6_0 {s : Nat} : (s + 6 = s) = False := eq_false (by omega)
theorem sne_6_1 {s : Nat} : (s + 6 = s + 1) = False := eq_false (by omega)
theorem sne_6_2 {s : Nat} : (s + 6 = s + 2) = False := eq_false (by omega)
theorem sne_6_3 {s : Nat} : (s + 6 = s + 3) = False := eq_false (by omega)
theorem sne_6_4 {s : Nat} : (s + 6 = s + 4) = False := eq_false (by omega)
theorem sne_6_5 {s : Nat} : (s + 6 = s + 5) = False := eq_false (by omega)
theorem sne_6_7 {s : Nat} : (s + 6 = s + 7) = False := eq_false (by omega)
theorem sne_6_8 {s : Nat} : (s + 6 = s + 8) = False := eq_false (by omega)
theorem sne_6_9 {s : Nat} : (s + 6 = s + 9) = False := eq_false (by omega)
theorem sne_6_10 {s : Nat} : (s + 6 = s + 10) = False := eq_false (by omega)
theorem sne_6_11 {s : Nat} : (s + 6 = s + 11) = False := eq_false (by omega)
theorem sne_7_0 {s : Nat} : (s + 7 = s) = False := eq_false (by omega)
theorem sne_7_1 {s : Nat} : (s + 7 = s + 1) = False := eq_false (by omega)
theorem sne_7_2 {s : Nat} : (s + 7 = s + 2) = False := eq_false (by omega)
theorem sne_7_3 {s : Nat} : (s + 7 = s + 3) = False := eq_false (by omega)
theorem sne_7_4 {s : Nat} : (s + 7 = s + 4) = False := eq_false (by omega)
theorem sne_7_5 {s : Nat} : (s + 7 = s + 5) = False := eq_false (by omega)
theorem sne_7_6 {s : Nat} : (s + 7 = s + 6) = False := eq_false (by omega)
theorem sne_7_8 {s : Nat} : (s + 7 = s + 8) = False := eq_false (by omega)
theorem sne_7_9 {s : Nat} : (s + 7 = s + 9) = False := eq_false (by omega)
theorem sne_7_10 {s : Nat} : (s + 7 = s + 10) = False := eq_false (by omega)
theorem sne_7_11 {s : Nat} : (s + 7 = s + 11) = False := eq_false (by omega)
theorem sne_8_0 {s : Nat} : (s + 8 = s) = False := eq_false (by omega)
theorem sne_8_1 {s : Nat} : (s + 8 = s + 1) = False := eq_false (by omega)
theorem sne_8_2 {s : Nat} : (s + 8 = s + 2) = False := eq_false (by omega)
theorem sne_8_3 {s : Nat} : (s + 8 = s + 3) = False := eq_false (by omega)
theorem sne_8_4 {s : Nat} : (s + 8 = s + 4) = False := eq_false (by omega)
theorem sne_8_5 {s : Nat} : (s + 8 = s + 5) = False := eq_false (by omega)
theorem sne_8_6 {s : Nat} : (s + 8 = s + 6) = False := eq_false (by omega)
theorem sne_8_7 {s : Nat} : (s + 8 = s + 7) = False := eq_false (by omega)
theorem sne_8_9 {s : Nat} : (s + 8 = s + 9) = False := eq_false (by omega)
theorem sne_8_10 {s : Nat} : (s + 8 = s + 10) = False := eq_false (by omega)
theorem sne_8_11 {s : Nat} : (s + 8 = s + 11) = False := eq_false (by omega)
theorem sne_9_0 {s : Nat} : (s + 9 = s) = False := eq_false (by omega)
theorem sne_9_1 {s : Nat} : (s + 9 = s + 1) = False := eq_false (by omega)
theorem sne_9_2 {s : Nat} : (s + 9 = s + 2) = False := eq_false (by omega)
theorem sne_9_3 {s : Nat} : (s + 9 = s + 3) = False := eq_false (by omega)
theorem sne_9_4 {s : Nat} : (s + 9 = s + 4) = False := eq_false (by omega)
theorem sne_9_5 {s : Nat} : (s + 9 = s + 5) = False := eq_false (by omega)
theorem sne_9_6 {s : Nat} : (s + 9 = s + 6) = False := eq_false (by omega)
theorem sne_9_7 {s : Nat} : (s + 9 = s + 7) = False := eq_false (by omega)
theorem sne_9_8 {s : Nat} : (s + 9 = s + 8) = False := eq_false (by omega)
theorem sne_9_10 {s : Nat} : (s + 9 = s + 10) = False := eq_false (by omega)
theorem sne_9_11 {s : Nat} : (s + 9 = s + 11) = False := eq_false (by omega)
theorem sne_10_0 {s : Nat} : (s + 10 = s) = False := eq_false (by omega)
theorem sne_10_1 {s : Nat} : (s + 10 = s + 1) = False := eq_false (by omega)
theorem sne_10_2 {s : Nat} : (s + 10 = s + 2) = False := eq_false (by omega)
theorem sne_10_3 {s : Nat} : (s + 10 = s + 3) = False := eq_false (by omega)
theorem sne_10_4 {s : Nat} : (s + 10 = s + 4) = False := eq_false (by omega)
theorem sne_10_5 {s : Nat} : (s + 10 = s + 5) = False := eq_false (by omega)
theorem sne_10_6 {s : Nat} : (s + 10 = s + 6) = False := eq_false (by omega)
theorem sne_10_7 {s : Nat} : (s + 10 = s + 7) = False := eq_false (by omega)
theorem sne_10_8 {s : Nat} : (s + 10 = s + 8) = False := eq_false (by omega)
theorem sne_10_9 {s : Nat} : (s + 10 = s + 9) = False := eq_false (by omega)
theorem sne_10_11 {s : Nat} : (s + 10 = s + 11) = False := eq_false (by omega)
theorem sne_11_0 {s : Nat} : (s + 11 = s) = False := eq_false (by omega)
theorem sne_11_1 {s : Nat} : (s + 11 = s + 1) = False := eq_false (by omega)
theorem sne_11_2 {s : Nat} : (s + 11 = s + 2) = False := eq_false (by omega)
theorem sne_11_3 {s : Nat} : (s + 11 = s + 3) = False := eq_false (by omega)
theorem sne_11_4 {s : Nat} : (s + 11 = s + 4) = False := eq_false (by omega)
theorem sne_11_5 {s : Nat} : (s + 11 = s + 5) = False := eq_false (by omega)
theorem sne_11_6 {s : Nat} : (s + 11 = s + 6) = False := eq_false (by omega)
theorem sne_11_7 {s : Nat} : (s + 11 = s + 7) = False := eq_false (by omega)
theorem sne_11_8 {s : Nat} : (s + 11 = s + 8) = False := eq_false (by omega)
theorem sne_11_9 {s : Nat} : (s + 11 = s + 9) = False := eq_false (by omega)
theorem sne_11_10 {s : Nat} : (s + 11 = s + 10) = False := eq_false (by omega)
/-- a new heat's cells, the object being at t, the steps taken from the row at b -/
def newHeat (h : AH) (t b n : Nat) : AH := wF (alA (wA (wF (alA h 10 n) t 0 (.ref (hN h))) (hN h) (hA h b)) 10 11) t 1 (.ref (hN h + 1))
theorem lim_in {n L : Nat} (h : n ≤ L) (hL : L < 2 ^ 31) : lim (nI n) 0 (nI L) = nI n := by
  unfold lim
  rw [if_pos (nI_pos' (by omega)), if_pos ((nI_leI (by omega) hL).mpr h)]
theorem s_heatInit {d t b n L : Nat} {h : AH} {K : AO → AH → Prop} (ht : hk h t = 1) (hb : hk h b = 10) (hlb : hl h b = L) (hL : L ≤ 700) (hn : n ≤ L) (htN : t < hN h) (hbN : b < hN h) : EvM (d + 1) 0 [.ref t, .ref b, .int (nI n)] h K = K (.inl none) (newHeat h t b n) := by
  have c1 : (¬ (nI n < 0 ∨ 60000000 < Int32.toNatClampNeg (nI n))) = True := eq_true (fun z => by
    rcases z with z | z
    · exact nI_pos (by omega) z
    · rw [zn_nI (by omega)] at z; omega)
  have c2 : (¬ ((11 : Int32) < 0 ∨ 60000000 < Int32.toNatClampNeg 11)) = True := eq_true (by decide)
  have e1 : (t = hN h) = False := eq_false (by omega)
  have e2 : (b = hN h) = False := eq_false (by omega)
  have e3 : (t = hN h + 1) = False := eq_false (by omega)
  have e4 : (hN h = t) = False := eq_false (by omega)
  have e5 : (hN h + 1 = t) = False := eq_false (by omega)
  have e6 : (nI n < 0) = False := eq_false (nI_pos (by omega))
  have e7 : (b = t) = False := eq_false (fun z => by rw [z, ht] at hb; exact absurd hb (by decide))
  simp only [in0, i0_0, i0_1, i0_4, i0_5, i0_6, i0_7, i0_8, i0_11, i0_12, i0_13, i0_14, i0_16, i0_19, i0_20, i0_21, i0_22, i0_25, i0_26, i0_27, i0_30, i0_31, i0_33, i0_35, i0_38, nl_i, nl_r, nl_0, nl_j, nb0, nb1, nbI, orv_s, konN_v, konN_n, konN_e, true_and, and_true, and_self, if_true, if_false, ite_true, ite_false, isR_ref, true_or, or_true, isR_null, rg10, rg11, rg12, rg13, rg14, rg15, rg16, rh13, rh14, rh15, rh16, bI_T, bI_F, bI_Fb, i1z, Bool.false_eq_true, hlb, s_limit, lim_in hn (show L < 2 ^ 31 by omega), c1, c2, hb, ht, zn_nI (show n < 2 ^ 31 by omega), zn_11, oN_O, oN_A, oN_F, oN_W, ok_O, ok_A, ok_F, ok_W, ol_O, ol_A, ol_F, ol_W, of_O, of_A, of_F, of_W, oa_O, oa_A, oa_F, oa_W, false_and, and_false, Nat.add_assoc, Nat.reduceAdd, Nat.reduceEqDiff, Nat.reduceLT, Nat.reduceLeDiff, e1, e2, e3, e4, e5, e6, e7, hn, Nat.le_refl, false_or, or_false, show ((11 : Int32) < 0) = False from eq_false (by decide), show (60000000 < n) = False from eq_false (by omega), show (10 ≤ 10 ∧ 10 ≤ 16) = True from eq_true (by decide), not_false_eq_true]
  rfl
def nsA (h : AH) (s : Nat) : AH := (wF (alA (wF (alA (wF (alA (wF (alA (wF (alA (wF (alA (wF (alA h 10 6) s 3 (.ref (s + 1))) 10 6) s 4 (.ref (s + 2))) 10 6) s 5 (.ref (s + 3))) 10 6) s 6 (.ref (s + 4))) 10 6) s 7 (.ref (s + 5))) 10 20) s 8 (.ref (s + 6))) 10 20) s 9 (.ref (s + 7)))
def m1row : Nat → Int32 := itn (fun k (f : Nat → Int32) => upd f k (-1)) 0 20 (fun _ => 0)
def usual : Nat → Int32 := upd (upd (upd (fun _ => 0) 0 400) 1 (-5)) 2 (-4)
def nsB (h : AH) (s : Nat) : AH := alO (wA (alA (wA (wA (nsA h s) (s + 6) m1row) (s + 7) m1row) 10 3) (s + 8) usual) 1 2 (dfl 0)
/-- a new setup's cells, the object being at s -/
def newSetup (h : AH) (s : Nat) : AH := wF (newHeat (nsB h s) (s + 9) (s + 8) 3) s 10 (.ref (s + 9))
theorem nsA_N {h : AH} {s : Nat} (hs : hN h = s + 1) : hN (nsA h s) = s + 8 := by
  show hN h + 1 + 1 + 1 + 1 + 1 + 1 + 1 = s + 8
  omega
theorem s_si_loop {d s : Nat} {h : AH} {K : AO → AH → Prop} (hs : hN h = s + 1) (hk4 : hk h s = 4) : ∀ m k f, k + m = 20 → Ev d 30 62 [some (.ref s), some (.int (nI k))] [] (wA (wA (nsA h s) (s + 6) f) (s + 7) f) K = Ev d 30 88 [some (.ref s), some (.int (nI 20))] [] (wA (wA (nsA h s) (s + 6) (itn (fun k (f : Nat → Int32) => upd f k (-1)) k m f)) (s + 7) (itn (fun k (f : Nat → Int32) => upd f k (-1)) k m f)) K
  | 0, k, f, hkm => by
    obtain rfl : k = 20 := by omega
    rw [i30_62]
    simp only [i30_63, i30_65, nl_i, nl_r, nl_0, nl_j, nb0, nb1, nbI, orv_s, konN_v, konN_n, konN_e, true_and, and_true, and_self, if_true, if_false, ite_true, ite_false, isR_ref, true_or, or_true, isR_null, rg10, rg11, rg12, rg13, rg14, rg15, rg16, rh13, rh14, rh15, rh16, bI_T, bI_F, bI_Fb, i1z, Bool.false_eq_true, show ((20 : Int32) ≤ nI 20) = True from eq_true (by decide), itn]
  | m + 1, k, f, hkm => by
    have hk20 : k < 20 := by omega
    have ih := s_si_loop (d := d) (K := K) hs hk4 m (k + 1) (upd f k (-1)) (by omega)
    have x1 : hk (nsA h s) s = 4 := by
      unfold nsA
      simp only [oN_O, oN_A, oN_F, oN_W, ok_O, ok_A, ok_F, ok_W, ol_O, ol_A, ol_F, ol_W, of_O, of_A, of_F, of_W, oa_O, oa_A, oa_F, oa_W, false_and, and_false, Nat.add_assoc, Nat.reduceAdd, Nat.reduceEqDiff, Nat.reduceLT, Nat.reduceLeDiff, sne_0_1, sne_0_2, sne_0_3, sne_0_4, sne_0_5, sne_0_6, sne_0_7, sne_0_8, sne_0_9, sne_0_10, sne_0_11, sne_1_0, sne_1_2, sne_1_3, sne_1_4, sne_1_5, sne_1_6, sne_1_7, sne_1_8, sne_1_9, sne_1_10, sne_1_11, sne_2_0, sne_2_1, sne_2_3, sne_2_4, sne_2_5, sne_2_6, sne_2_7, sne_2_8, sne_2_9, sne_2_10, sne_2_11, sne_3_0, sne_3_1, sne_3_2, sne_3_4, sne_3_5, sne_3_6, sne_3_7, sne_3_8, sne_3_9, sne_3_10, sne_3_11, sne_4_0, sne_4_1, sne_4_2, sne_4_3, sne_4_5, sne_4_6, sne_4_7, sne_4_8, sne_4_9, sne_4_10, sne_4_11, sne_5_0, sne_5_1, sne_5_2, sne_5_3, sne_5_4, sne_5_6, sne_5_7, sne_5_8, sne_5_9, sne_5_10, sne_5_11, sne_6_0, sne_6_1, sne_6_2, sne_6_3, sne_6_4, sne_6_5, sne_6_7, sne_6_8, sne_6_9, sne_6_10, sne_6_11, sne_7_0, sne_7_1, sne_7_2, sne_7_3, sne_7_4, sne_7_5, sne_7_6, sne_7_8, sne_7_9, sne_7_10, sne_7_11, sne_8_0, sne_8_1, sne_8_2, sne_8_3, sne_8_4, sne_8_5, sne_8_6, sne_8_7, sne_8_9, sne_8_10, sne_8_11, sne_9_0, sne_9_1, sne_9_2, sne_9_3, sne_9_4, sne_9_5, sne_9_6, sne_9_7, sne_9_8, sne_9_10, sne_9_11, sne_10_0, sne_10_1, sne_10_2, sne_10_3, sne_10_4, sne_10_5, sne_10_6, sne_10_7, sne_10_8, sne_10_9, sne_10_11, sne_11_0, sne_11_1, sne_11_2, sne_11_3, sne_11_4, sne_11_5, sne_11_6, sne_11_7, sne_11_8, sne_11_9, sne_11_10, hs, hk4, if_true, if_false, true_and, and_true]
    have x2 : hF (nsA h s) s 8 = .ref (s + 6) := by
      unfold nsA
      simp only [oN_O, oN_A, oN_F, oN_W, ok_O, ok_A, ok_F, ok_W, ol_O, ol_A, ol_F, ol_W, of_O, of_A, of_F, of_W, oa_O, oa_A, oa_F, oa_W, false_and, and_false, Nat.add_assoc, Nat.reduceAdd, Nat.reduceEqDiff, Nat.reduceLT, Nat.reduceLeDiff, sne_0_1, sne_0_2, sne_0_3, sne_0_4, sne_0_5, sne_0_6, sne_0_7, sne_0_8, sne_0_9, sne_0_10, sne_0_11, sne_1_0, sne_1_2, sne_1_3, sne_1_4, sne_1_5, sne_1_6, sne_1_7, sne_1_8, sne_1_9, sne_1_10, sne_1_11, sne_2_0, sne_2_1, sne_2_3, sne_2_4, sne_2_5, sne_2_6, sne_2_7, sne_2_8, sne_2_9, sne_2_10, sne_2_11, sne_3_0, sne_3_1, sne_3_2, sne_3_4, sne_3_5, sne_3_6, sne_3_7, sne_3_8, sne_3_9, sne_3_10, sne_3_11, sne_4_0, sne_4_1, sne_4_2, sne_4_3, sne_4_5, sne_4_6, sne_4_7, sne_4_8, sne_4_9, sne_4_10, sne_4_11, sne_5_0, sne_5_1, sne_5_2, sne_5_3, sne_5_4, sne_5_6, sne_5_7, sne_5_8, sne_5_9, sne_5_10, sne_5_11, sne_6_0, sne_6_1, sne_6_2, sne_6_3, sne_6_4, sne_6_5, sne_6_7, sne_6_8, sne_6_9, sne_6_10, sne_6_11, sne_7_0, sne_7_1, sne_7_2, sne_7_3, sne_7_4, sne_7_5, sne_7_6, sne_7_8, sne_7_9, sne_7_10, sne_7_11, sne_8_0, sne_8_1, sne_8_2, sne_8_3, sne_8_4, sne_8_5, sne_8_6, sne_8_7, sne_8_9, sne_8_10, sne_8_11, sne_9_0, sne_9_1, sne_9_2, sne_9_3, sne_9_4, sne_9_5, sne_9_6, sne_9_7, sne_9_8, sne_9_10, sne_9_11, sne_10_0, sne_10_1, sne_10_2, sne_10_3, sne_10_4, sne_10_5, sne_10_6, sne_10_7, sne_10_8, sne_10_9, sne_10_11, sne_11_0, sne_11_1, sne_11_2, sne_11_3, sne_11_4, sne_11_5, sne_11_6, sne_11_7, sne_11_8, sne_11_9, sne_11_10, hs, if_true, if_false, true_and, and_true, and_self]
    have x3 : hF (nsA h s) s 9 = .ref (s + 7) := by
      unfold nsA
      simp only [oN_O, oN_A, oN_F, oN_W, ok_O, ok_A, ok_F, ok_W, ol_O, ol_A, ol_F, ol_W, of_O, of_A, of_F, of_W, oa_O, oa_A, oa_F, oa_W, false_and, and_false, Nat.add_assoc, Nat.reduceAdd, Nat.reduceEqDiff, Nat.reduceLT, Nat.reduceLeDiff, sne_0_1, sne_0_2, sne_0_3, sne_0_4, sne_0_5, sne_0_6, sne_0_7, sne_0_8, sne_0_9, sne_0_10, sne_0_11, sne_1_0, sne_1_2, sne_1_3, sne_1_4, sne_1_5, sne_1_6, sne_1_7, sne_1_8, sne_1_9, sne_1_10, sne_1_11, sne_2_0, sne_2_1, sne_2_3, sne_2_4, sne_2_5, sne_2_6, sne_2_7, sne_2_8, sne_2_9, sne_2_10, sne_2_11, sne_3_0, sne_3_1, sne_3_2, sne_3_4, sne_3_5, sne_3_6, sne_3_7, sne_3_8, sne_3_9, sne_3_10, sne_3_11, sne_4_0, sne_4_1, sne_4_2, sne_4_3, sne_4_5, sne_4_6, sne_4_7, sne_4_8, sne_4_9, sne_4_10, sne_4_11, sne_5_0, sne_5_1, sne_5_2, sne_5_3, sne_5_4, sne_5_6, sne_5_7, sne_5_8, sne_5_9, sne_5_10, sne_5_11, sne_6_0, sne_6_1, sne_6_2, sne_6_3, sne_6_4, sne_6_5, sne_6_7, sne_6_8, sne_6_9, sne_6_10, sne_6_11, sne_7_0, sne_7_1, sne_7_2, sne_7_3, sne_7_4, sne_7_5, sne_7_6, sne_7_8, sne_7_9, sne_7_10, sne_7_11, sne_8_0, sne_8_1, sne_8_2, sne_8_3, sne_8_4, sne_8_5, sne_8_6, sne_8_7, sne_8_9, sne_8_10, sne_8_11, sne_9_0, sne_9_1, sne_9_2, sne_9_3, sne_9_4, sne_9_5, sne_9_6, sne_9_7, sne_9_8, sne_9_10, sne_9_11, sne_10_0, sne_10_1, sne_10_2, sne_10_3, sne_10_4, sne_10_5, sne_10_6, sne_10_7, sne_10_8, sne_10_9, sne_10_11, sne_11_0, sne_11_1, sne_11_2, sne_11_3, sne_11_4, sne_11_5, sne_11_6, sne_11_7, sne_11_8, sne_11_9, sne_11_10, hs, if_true, if_false, true_and, and_true, and_self]
    have x4 : hk (nsA h s) (s + 6) = 10 ∧ hl (nsA h s) (s + 6) = 20 ∧ hk (nsA h s) (s + 7) = 10 ∧ hl (nsA h s) (s + 7) = 20 := by
      unfold nsA
      simp only [oN_O, oN_A, oN_F, oN_W, ok_O, ok_A, ok_F, ok_W, ol_O, ol_A, ol_F, ol_W, of_O, of_A, of_F, of_W, oa_O, oa_A, oa_F, oa_W, false_and, and_false, Nat.add_assoc, Nat.reduceAdd, Nat.reduceEqDiff, Nat.reduceLT, Nat.reduceLeDiff, sne_0_1, sne_0_2, sne_0_3, sne_0_4, sne_0_5, sne_0_6, sne_0_7, sne_0_8, sne_0_9, sne_0_10, sne_0_11, sne_1_0, sne_1_2, sne_1_3, sne_1_4, sne_1_5, sne_1_6, sne_1_7, sne_1_8, sne_1_9, sne_1_10, sne_1_11, sne_2_0, sne_2_1, sne_2_3, sne_2_4, sne_2_5, sne_2_6, sne_2_7, sne_2_8, sne_2_9, sne_2_10, sne_2_11, sne_3_0, sne_3_1, sne_3_2, sne_3_4, sne_3_5, sne_3_6, sne_3_7, sne_3_8, sne_3_9, sne_3_10, sne_3_11, sne_4_0, sne_4_1, sne_4_2, sne_4_3, sne_4_5, sne_4_6, sne_4_7, sne_4_8, sne_4_9, sne_4_10, sne_4_11, sne_5_0, sne_5_1, sne_5_2, sne_5_3, sne_5_4, sne_5_6, sne_5_7, sne_5_8, sne_5_9, sne_5_10, sne_5_11, sne_6_0, sne_6_1, sne_6_2, sne_6_3, sne_6_4, sne_6_5, sne_6_7, sne_6_8, sne_6_9, sne_6_10, sne_6_11, sne_7_0, sne_7_1, sne_7_2, sne_7_3, sne_7_4, sne_7_5, sne_7_6, sne_7_8, sne_7_9, sne_7_10, sne_7_11, sne_8_0, sne_8_1, sne_8_2, sne_8_3, sne_8_4, sne_8_5, sne_8_6, sne_8_7, sne_8_9, sne_8_10, sne_8_11, sne_9_0, sne_9_1, sne_9_2, sne_9_3, sne_9_4, sne_9_5, sne_9_6, sne_9_7, sne_9_8, sne_9_10, sne_9_11, sne_10_0, sne_10_1, sne_10_2, sne_10_3, sne_10_4, sne_10_5, sne_10_6, sne_10_7, sne_10_8, sne_10_9, sne_10_11, sne_11_0, sne_11_1, sne_11_2, sne_11_3, sne_11_4, sne_11_5, sne_11_6, sne_11_7, sne_11_8, sne_11_9, sne_11_10, hs, if_true, if_false, true_and, and_true, and_self]
    rw [i30_62]
    simp only [i30_63, i30_65, i30_68, i30_69, i30_72, i30_73, i30_74, i30_75, i30_76, i30_79, i30_80, i30_81, i30_82, i30_85, nl_i, nl_r, nl_0, nl_j, nb0, nb1, nbI, orv_s, konN_v, konN_n, konN_e, true_and, and_true, and_self, if_true, if_false, ite_true, ite_false, isR_ref, true_or, or_true, isR_null, rg10, rg11, rg12, rg13, rg14, rg15, rg16, rh13, rh14, rh15, rh16, bI_T, bI_F, bI_Fb, i1z, Bool.false_eq_true, nI_le_zn (show k < 2 ^ 31 by omega), zn_20, hk20, not_true, ok_W, ol_W, of_W, oa_W, x1, x2, x3, x4.1, x4.2.1, x4.2.2.1, x4.2.2.2, sne_6_7, sne_7_6, inbT hk20 (show 20 < 2 ^ 31 by omega), zn_nI (show k < 2 ^ 31 by omega), nI_1, itn]
    rw [← ih, wA_cm (a := s + 7) (b := s + 6) (by omega), wA_wA, wA_wA]
