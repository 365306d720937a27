/-! THE LAW'S START: a new line of the law's -/
def DF (N i j : Nat) : Nat := if i = 0 then N + 1 + j else if i = 3 then N + 6 + j else 0
def cF (N i : Nat) : Nat × Nat := if i = N then (9, 0) else if i < N + 6 then (0, i - (N + 1)) else (3, i - (N + 6))
section FRL
variable {g : AH} {f : Nat → Int32} {i : Nat}
theorem DF_ad {N : Nat} (h : Ad N (DF N) 0 0 i) : N ≤ i ∧ i < N + 26 := by
  rcases h with h | ⟨j, hj, h⟩ | ⟨z, hz, -⟩ | ⟨s, hs, -⟩ | ⟨t, ht, h⟩
  · omega
  · have e : DF N 0 j = N + 1 + j := rfl
    omega
  · omega
  · omega
  · have e : DF N 3 t = N + 6 + t := rfl
    omega
theorem ln_fresh (h1 : f 1 = 0) (h2 : f 2 = 0) (h3 : f 3 = -1) (h4 : f 4 = 0) : ∃ g', (Sm noW g g' ∧ hN g' = hN g + 26 ∧ hS g' = hS g + 130) ∧ LLn g' (fun _ => False) (hN g) (DF (hN g)) 0 0 (fun _ => 0) a0 .null usual 3 f (fun _ _ => 0) (fun _ => 0) ∧ ∀ d K, EvM (d + 1) 85 [.ref (hN g)] (alO g 7 10 (dfl 6)) K = K (.inl none) g' := by
  obtain ⟨N, hN0⟩ : ∃ N, N = hN g := ⟨_, rfl⟩
  have nA : hN (alO g 7 10 (dfl 6)) = N + 1 := by rw [hN0]; rfl
  have k0 : hk (alO g 7 10 (dfl 6)) N = 7 := by rw [hN0]; exact alO_k
  have f0 : ∀ k, hF (alO g 7 10 (dfl 6)) N k = dfl 6 k := fun k => by rw [hN0]; exact alO_F
  obtain ⟨g', ⟨s1, n1, m1⟩, ⟨i0, i5, i6, i7, i8, i9⟩, ⟨j0, j1, j2, ⟨j3, j3'⟩, j4, j5⟩, ev⟩ := s_linit k0 (by omega)
  rw [nA] at n1 i5 i6 i7 i8 i9 j0 j1 j2 j3 j3' j4 j5
  rw [← hN0]
  have sm : Sm noW g g' := (((Sm.alO (W := fun i => i = N)).tr s1).mo (fun i hi z => by omega))
  have kl : hk g' N = 7 := (s1.k (by omega)).trans k0
  have lt : ∀ i, Ad N (DF N) 0 0 i → i < hN g' := fun i hi => by have := DF_ad hi; omega
  refine ⟨g', ⟨sm, by omega, by rw [m1]; show hS g + 10 + 120 = _; omega⟩, ⟨⟨⟨kl, ?_, ?_, ?_, ⟨0, ?_, Or.inl h3⟩, ?_, i5, i6, i7, i8, i9⟩, ⟨j0, j1, j2, j3, j4⟩, fun z hz => absurd hz (by omega), fun z hz => absurd hz (by omega), fun s hs => absurd hs (by omega), fun t ht => ?_, fun t ht => ?_⟩, ⟨⟨⟨cF N, ?_, fun j hj => ?_, fun z hz => absurd hz (by omega), fun s hs => absurd hs (by omega), fun t ht => ?_⟩, fun i hi => hi.elim⟩, lt⟩, Or.inl ⟨rfl, rfl, rfl, rfl, rfl⟩, ⟨⟨h2, by omega, fun _ => rfl⟩, Or.inl ⟨h3, h4⟩, ⟨fun z hz => absurd hz (by omega), fun z z' hz => absurd hz (by omega)⟩, fun z hz => absurd hz (by omega), fun z hz => absurd hz (by omega), fun k hk => by show (-50 : Int32) ≤ 0 ∧ (0 : Int32) ≤ 50; decide⟩, ⟨fun s hs => absurd hs (by omega), fun s hs => absurd hs (by omega)⟩, ⟨rfl, by omega⟩, fun z => absurd z (by omega), fun z hz => absurd hz (by omega)⟩, ev⟩
  · rw [i0 0 (by omega), f0, h1]; rfl
  · rw [i0 1 (by omega), f0]; rfl
  · rw [i0 2 (by omega), f0]; rfl
  · rw [i0 3 (by omega), f0]; rfl
  · rw [i0 4 (by omega), f0]; rfl
  · have e : hR g' (DF N 0 3) = fun _ => none := j3'
    rw [e]
    exact Or.inl ⟨rfl, m1_at t ht, m1_at t ht⟩
  · obtain ⟨a1, a2, a3⟩ := j5 t ht
    have e : DF N 3 t = N + 1 + 5 + t := by show N + 6 + t = _; omega
    rw [e, a3]
    exact ⟨a1, a2, rfl, rfl, rfl, rfl⟩
  · exact if_pos rfl
  · show cF N (N + 1 + j) = (0, j)
    unfold cF
    rw [if_neg (by omega), if_pos (by omega), show N + 1 + j - (N + 1) = j by omega]
  · show cF N (N + 6 + t) = (3, t)
    unfold cF
    rw [if_neg (by omega), if_neg (by omega), show N + 6 + t - (N + 6) = t by omega]
end FRL
