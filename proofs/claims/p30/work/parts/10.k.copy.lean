/-! THE LAW'S LINE: a new one, a new sheet -/
theorem i86_45_N {d a l0 l1 l2 t h Q} : Ev d 86 45 [l0, l1, l2] (.null :: .ref a :: t) h Q = (hk h a = 7 ∧ Ev d 86 48 [l0, l1, l2] t (wF h a 4 .null) Q) := en_putfield (cj := 6) mm86 dX6_copy_45 (by decide +kernel) rfl
section NEWL
variable {g : AH} {W : Nat → Prop} {n m i a : Nat}
theorem alM_kl : (hk (alM g n m) i, hl (alM g n m) i) = if i = hN g then (14, n) else if hN g < i ∧ i < hN g + 1 + n then (10, m) else (hk g i, hl g i) := by
  show (alM g n m).2.2.1 i = _
  rfl
theorem Sm.alM : Sm W g (alM g n m) := by
  refine ⟨by show hN g ≤ hN g + 1 + n; omega, by show hS g ≤ hS g + n + n * m; omega, rfl, fun i hi => ?_, fun i hi _ => ⟨fun _ => rfl, ?_, rfl, ?_⟩⟩
  · have e := alM_kl (g := g) (n := n) (m := m) (i := i)
    rw [if_neg (by omega), if_neg (by omega)] at e
    exact ⟨congrArg Prod.fst e, congrArg Prod.snd e⟩
  · exact if_neg (show ¬ (hN g < i ∧ i < hN g + 1 + n) by omega)
  · exact if_neg (show ¬ i = hN g by omega)
theorem alM_top : (hk (alM g n m) (hN g) = 14 ∧ hl (alM g n m) (hN g) = n) ∧ ∀ t, t < n → hR (alM g n m) (hN g) t = some (hN g + 1 + t) ∧ (hk (alM g n m) (hN g + 1 + t) = 10 ∧ hl (alM g n m) (hN g + 1 + t) = m) ∧ hA (alM g n m) (hN g + 1 + t) = fun _ => 0 := by
  have e := alM_kl (g := g) (n := n) (m := m) (i := hN g)
  rw [if_pos rfl] at e
  refine ⟨⟨congrArg Prod.fst e, congrArg Prod.snd e⟩, fun t ht => ⟨?_, ?_, ?_⟩⟩
  · show (if hN g = hN g then (fun j => if j < n then some (hN g + 1 + j) else none) else _) t = _
    rw [if_pos rfl]
    exact if_pos ht
  · have e := alM_kl (g := g) (n := n) (m := m) (i := hN g + 1 + t)
    rw [if_neg (by omega), if_pos (by omega)] at e
    exact ⟨congrArg Prod.fst e, congrArg Prod.snd e⟩
  · exact if_pos (show hN g < hN g + 1 + t ∧ hN g + 1 + t < hN g + 1 + n by omega)
theorem s_linit (hk7 : hk g a = 7) (ha : a < hN g) : ∃ g', (Sm (fun i => i = a) g g' ∧ hN g' = hN g + 25 ∧ hS g' = hS g + 120) ∧ ((∀ k, k < 5 → hF g' a k = hF g a k) ∧ hF g' a 5 = .ref (hN g) ∧ hF g' a 6 = .ref (hN g + 1) ∧ hF g' a 7 = .ref (hN g + 2) ∧ hF g' a 8 = .ref (hN g + 3) ∧ hF g' a 9 = .ref (hN g + 4)) ∧
    ((hk g' (hN g) = 14 ∧ hl g' (hN g) = 0) ∧ (hk g' (hN g + 1) = 10 ∧ hl g' (hN g + 1) = 0) ∧ (hk g' (hN g + 2) = 15 ∧ hl g' (hN g + 2) = 0) ∧ ((hk g' (hN g + 3) = 14 ∧ hl g' (hN g + 3) = 20) ∧ hR g' (hN g + 3) = fun _ => none) ∧ (hk g' (hN g + 4) = 14 ∧ hl g' (hN g + 4) = 20) ∧ ∀ t, t < 20 → hR g' (hN g + 4) t = some (hN g + 5 + t) ∧ (hk g' (hN g + 5 + t) = 10 ∧ hl g' (hN g + 5 + t) = 4) ∧ hA g' (hN g + 5 + t) = fun _ => 0) ∧
    ∀ d K, EvM (d + 1) 85 [.ref a] g K = K (.inl none) g' := by
  obtain ⟨g1, hg1⟩ : ∃ x, x = wF (alA g 14 0) a 5 (.ref (hN g)) := ⟨_, rfl⟩
  obtain ⟨g2, hg2⟩ : ∃ x, x = wF (alA g1 10 0) a 6 (.ref (hN g + 1)) := ⟨_, rfl⟩
  obtain ⟨g3, hg3⟩ : ∃ x, x = wF (alA g2 15 0) a 7 (.ref (hN g + 2)) := ⟨_, rfl⟩
  obtain ⟨g4, hg4⟩ : ∃ x, x = wF (alA g3 14 20) a 8 (.ref (hN g + 3)) := ⟨_, rfl⟩
  obtain ⟨g5, hg5⟩ : ∃ x, x = wF (alM g4 20 4) a 9 (.ref (hN g + 4)) := ⟨_, rfl⟩
  have n1 : hN g1 = hN g + 1 := by rw [hg1]; rfl
  have n2 : hN g2 = hN g + 2 := by rw [hg2]; exact congrArg (· + 1) n1
  have n3 : hN g3 = hN g + 3 := by rw [hg3]; exact congrArg (· + 1) n2
  have n4 : hN g4 = hN g + 4 := by rw [hg4]; exact congrArg (· + 1) n3
  have n5 : hN g5 = hN g + 25 := by
    have : hN g5 = hN g4 + 1 + 20 := by rw [hg5]; rfl
    omega
  have m1 : hS g1 = hS g := by rw [hg1]; rfl
  have m2 : hS g2 = hS g1 := by rw [hg2]; rfl
  have m3 : hS g3 = hS g2 := by rw [hg3]; rfl
  have m4 : hS g4 = hS g3 + 20 := by rw [hg4]; rfl
  have m5 : hS g5 = hS g4 + 20 + 20 * 4 := by rw [hg5]; rfl
  have s1 : Sm (fun i => i = a) g g1 := by rw [hg1]; exact Sm.alA.tr (Sm.wF rfl)
  have s2 : Sm (fun i => i = a) g1 g2 := by rw [hg2]; exact Sm.alA.tr (Sm.wF rfl)
  have s3 : Sm (fun i => i = a) g2 g3 := by rw [hg3]; exact Sm.alA.tr (Sm.wF rfl)
  have s4 : Sm (fun i => i = a) g3 g4 := by rw [hg4]; exact Sm.alA.tr (Sm.wF rfl)
  have s5 : Sm (fun i => i = a) g4 g5 := by rw [hg5]; exact Sm.alM.tr (Sm.wF rfl)
  have f1 : ∀ k, hF g1 a k = if k = 5 then .ref (hN g) else hF g a k := fun k => by
    rw [hg1]
    show (if a = a ∧ k = 5 then _ else hF g a k) = _
    by_cases e : k = 5
    · rw [if_pos ⟨rfl, e⟩, if_pos e]
    · rw [if_neg (fun z => e z.2), if_neg e]
  have f2 : ∀ k, hF g2 a k = if k = 6 then .ref (hN g + 1) else hF g1 a k := fun k => by
    rw [hg2]
    show (if a = a ∧ k = 6 then _ else hF g1 a k) = _
    by_cases e : k = 6
    · rw [if_pos ⟨rfl, e⟩, if_pos e]
    · rw [if_neg (fun z => e z.2), if_neg e]
  have f3 : ∀ k, hF g3 a k = if k = 7 then .ref (hN g + 2) else hF g2 a k := fun k => by
    rw [hg3]
    show (if a = a ∧ k = 7 then _ else hF g2 a k) = _
    by_cases e : k = 7
    · rw [if_pos ⟨rfl, e⟩, if_pos e]
    · rw [if_neg (fun z => e z.2), if_neg e]
  have f4 : ∀ k, hF g4 a k = if k = 8 then .ref (hN g + 3) else hF g3 a k := fun k => by
    rw [hg4]
    show (if a = a ∧ k = 8 then _ else hF g3 a k) = _
    by_cases e : k = 8
    · rw [if_pos ⟨rfl, e⟩, if_pos e]
    · rw [if_neg (fun z => e z.2), if_neg e]
  have f5 : ∀ k, hF g5 a k = if k = 9 then .ref (hN g + 4) else hF g4 a k := fun k => by
    rw [hg5]
    show (if a = a ∧ k = 9 then _ else hF g4 a k) = _
    by_cases e : k = 9
    · rw [if_pos ⟨rfl, e⟩, if_pos e]
    · rw [if_neg (fun z => e z.2), if_neg e]
  have s25 := s2.tr (s3.tr (s4.tr s5))
  have s35 := s3.tr (s4.tr s5)
  have s45 := s4.tr s5
  have k1 : hk g1 (hN g) = 14 ∧ hl g1 (hN g) = 0 := by rw [hg1]; exact ⟨alA_k, alA_l⟩
  have k2 : hk g2 (hN g + 1) = 10 ∧ hl g2 (hN g + 1) = 0 := by rw [hg2, ← n1]; exact ⟨alA_k, alA_l⟩
  have k3 : hk g3 (hN g + 2) = 15 ∧ hl g3 (hN g + 2) = 0 := by rw [hg3, ← n2]; exact ⟨alA_k, alA_l⟩
  have k4 : hk g4 (hN g + 3) = 14 ∧ hl g4 (hN g + 3) = 20 := by rw [hg4, ← n3]; exact ⟨alA_k, alA_l⟩
  have r4 : hR g4 (hN g + 3) = fun _ => none := by rw [hg4, ← n3]; exact alA_R (kd := 14) (n := 20)
  have k5 := alM_top (g := g4) (n := 20) (m := 4)
  have e5 : ∀ i, hk g5 i = hk (alM g4 20 4) i ∧ hl g5 i = hl (alM g4 20 4) i ∧ hR g5 i = hR (alM g4 20 4) i ∧ hA g5 i = hA (alM g4 20 4) i := fun i => by rw [hg5]; exact ⟨rfl, rfl, rfl, rfl⟩
  refine ⟨g5, ⟨s1.tr s25, n5, by omega⟩, ⟨fun k hk => ?_, ?_, ?_, ?_, ?_, ?_⟩, ⟨⟨?_, ?_⟩, ⟨?_, ?_⟩, ⟨?_, ?_⟩, ⟨⟨?_, ?_⟩, ?_⟩, ⟨?_, ?_⟩, fun t ht => ?_⟩, fun d K => ?_⟩
  · rw [f5, f4, f3, f2, f1, if_neg (by omega), if_neg (by omega), if_neg (by omega), if_neg (by omega), if_neg (by omega)]
  · rw [f5, f4, f3, f2, f1]; rfl
  · rw [f5, f4, f3, f2]; rfl
  · rw [f5, f4, f3]; rfl
  · rw [f5, f4]; rfl
  · rw [f5]; rfl
  · rw [s25.k (by omega)]; exact k1.1
  · rw [s25.l (by omega)]; exact k1.2
  · rw [s35.k (by omega)]; exact k2.1
  · rw [s35.l (by omega)]; exact k2.2
  · rw [s45.k (by omega)]; exact k3.1
  · rw [s45.l (by omega)]; exact k3.2
  · rw [s5.k (by omega)]; exact k4.1
  · rw [s5.l (by omega)]; exact k4.2
  · rw [s5.R (by omega) (by omega)]; exact r4
  · rw [(e5 _).1, ← n4]; exact k5.1.1
  · rw [(e5 _).2.1, ← n4]; exact k5.1.2
  · have x := k5.2 t ht
    rw [n4] at x
    rw [(e5 _).1, (e5 _).2.1, (e5 _).2.2.1, (e5 _).2.2.2]
    exact x
  · have q1 : hk g1 a = 7 := (s1.k ha).trans hk7
    have q2 : hk g2 a = 7 := (s2.k (by omega)).trans q1
    have q3 : hk g3 a = 7 := (s3.k (by omega)).trans q2
    have q4 : hk g4 a = 7 := (s4.k (by omega)).trans q3
    have p1 : hk (alA g 14 0) a = 7 := ((Sm.alA (W := fun i => i = a)).k ha).trans hk7
    have p2 : hk (alA g1 10 0) a = 7 := ((Sm.alA (W := fun i => i = a)).k (by omega)).trans q1
    have p3 : hk (alA g2 15 0) a = 7 := ((Sm.alA (W := fun i => i = a)).k (by omega)).trans q2
    have p4 : hk (alA g3 14 20) a = 7 := ((Sm.alA (W := fun i => i = a)).k (by omega)).trans q3
    have p5 : hk (alM g4 20 4) a = 7 := ((Sm.alM (W := fun i => i = a)).k (by omega)).trans q4
    have v0 : (¬ ((0 : Int32) < 0 ∨ 60000000 < 0)) = True := eq_true (by decide)
    have v20 : (¬ ((20 : Int32) < 0 ∨ 60000000 < 20)) = True := eq_true (by decide)
    have v24 : (¬ ((20 : Int32) < 0 ∨ (4 : Int32) < 0 ∨ 60000000 < 20 ∨ 60000000 < 4)) = True := eq_true (by decide)
    simp only [in85, i85_0, i85_1, i85_4, i85_5, i85_6, i85_9, i85_12, i85_13, i85_14, i85_16, i85_19, i85_20, i85_21, i85_24, i85_27, i85_28, i85_30, i85_33, i85_36, i85_37, i85_39, i85_40, i85_44, i85_47, nl_i, nl_r, nl_0, nl_j, nb0, nb1, nbI, orv_s, konN_v, konN_n, konN_e, true_and, and_true, and_self, if_true, if_false, ite_true, ite_false, isR_ref, true_or, or_true, isR_null, rg10, rg11, rg12, rg13, rg14, rg15, rg16, rh13, rh14, rh15, rh16, bI_T, bI_F, bI_Fb, i1z, Bool.false_eq_true, zn_0, zn_20, zn_4, v0, v20, v24, p1, ← hg1, n1, p2, ← hg2, n2, p3, ← hg3, n3, p4, ← hg4, n4, p5, ← hg5]
/-- a new sheet -/
theorem s_sinit {v : Int32} (hk : hk g a = 20) {d : Nat} {K : AO → AH → Prop} : EvM (d + 1) 103 [.ref a, .int v] g K = K (.inl none) (wF (wF (wF g a 1 (.int 20)) a 3 (.int (-2))) a 0 (.int v)) := by
  have k1 : ∀ (g : AH) (k : Nat) (v : Value) (j : Nat), CTemperingLineLaw_law_r1743_4daa03.hk (wF g a k v) j = CTemperingLineLaw_law_r1743_4daa03.hk g j := fun _ _ _ _ => rfl
  simp only [in103, i103_0, i103_1, i103_4, i103_5, i103_7, i103_10, i103_11, i103_13, i103_16, i103_17, i103_18, i103_21, nl_i, nl_r, nl_0, nl_j, nb0, nb1, nbI, orv_s, konN_v, konN_n, konN_e, true_and, and_true, and_self, if_true, if_false, ite_true, ite_false, isR_ref, true_or, or_true, isR_null, rg10, rg11, rg12, rg13, rg14, rg15, rg16, rh13, rh14, rh15, rh16, bI_T, bI_F, bI_Fb, i1z, Bool.false_eq_true, k1, hk]
end NEWL
