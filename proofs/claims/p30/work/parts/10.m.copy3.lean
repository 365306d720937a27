/-! THE LAW'S LINE: a copy, as a whole -/
section CPZ
variable {g h h' : AH} {B W : Nat → Prop} {l : Nat} {D : Nat → Nat → Nat} {nz ns n c N : Nat} {q pg stk : Nat → Int32} {sa : Nat → Nat → Int32} {tv : Value} {f f' : Nat → Int32} {a a' : Nat → Nat → Int32} {p p' : Nat → Int32} {z s t k : Nat} {y : Int32}
/-- the cells of a copy -/
def D2F (N nz ns x : Nat) (i j : Nat) : Nat := if i = 0 then (if j = 0 then N + 26 else if j = 1 then N + 27 + nz else if j = 2 then N + 28 + nz else if j = 3 then x else N + 5) else if i = 1 then N + 27 + j else if i = 2 then N + 29 + nz + j else N + 29 + nz + ns + j
def c2F (N nz ns i : Nat) : Nat × Nat := if i = N then (9, 0) else if i = N + 26 then (0, 0) else if i = N + 27 + nz then (0, 1) else if i = N + 28 + nz then (0, 2) else if i = N + 5 then (0, 4) else if N + 27 ≤ i ∧ i < N + 27 + nz then (1, i - (N + 27)) else if N + 29 + nz ≤ i ∧ i < N + 29 + nz + ns then (2, i - (N + 29 + nz)) else if N + 29 + nz + ns ≤ i then (3, i - (N + 29 + nz + ns)) else (0, 3)
theorem c2_ok {x : Nat} (hx : x < N) : c2F N nz ns N = (9, 0) ∧ (∀ j, j < 5 → c2F N nz ns (D2F N nz ns x 0 j) = (0, j)) ∧ (∀ z, z < nz → c2F N nz ns (D2F N nz ns x 1 z) = (1, z)) ∧ (∀ s, s < ns → c2F N nz ns (D2F N nz ns x 2 s) = (2, s)) ∧ ∀ t, t < 20 → c2F N nz ns (D2F N nz ns x 3 t) = (3, t) := by
  refine ⟨if_pos rfl, fun j hj => ?_, fun z hz => ?_, fun s hs => ?_, fun t ht => ?_⟩
  · rcases (show j = 0 ∨ j = 1 ∨ j = 2 ∨ j = 3 ∨ j = 4 by omega) with rfl | rfl | rfl | rfl | rfl
    · show c2F N nz ns (N + 26) = _
      unfold c2F
      rw [if_neg (by omega), if_pos rfl]
    · show c2F N nz ns (N + 27 + nz) = _
      unfold c2F
      rw [if_neg (by omega), if_neg (by omega), if_pos rfl]
    · show c2F N nz ns (N + 28 + nz) = _
      unfold c2F
      rw [if_neg (by omega), if_neg (by omega), if_neg (by omega), if_pos rfl]
    · show c2F N nz ns x = _
      unfold c2F
      rw [if_neg (by omega), if_neg (by omega), if_neg (by omega), if_neg (by omega), if_neg (by omega), if_neg (by omega), if_neg (by omega), if_neg (by omega)]
    · show c2F N nz ns (N + 5) = _
      unfold c2F
      rw [if_neg (by omega), if_neg (by omega), if_neg (by omega), if_neg (by omega), if_pos rfl]
  · show c2F N nz ns (N + 27 + z) = _
    unfold c2F
    rw [if_neg (by omega), if_neg (by omega), if_neg (by omega), if_neg (by omega), if_neg (by omega), if_pos (by omega), show N + 27 + z - (N + 27) = z by omega]
  · show c2F N nz ns (N + 29 + nz + s) = _
    unfold c2F
    rw [if_neg (by omega), if_neg (by omega), if_neg (by omega), if_neg (by omega), if_neg (by omega), if_neg (by omega), if_pos (by omega), show N + 29 + nz + s - (N + 29 + nz) = s by omega]
  · show c2F N nz ns (N + 29 + nz + ns + t) = _
    unfold c2F
    rw [if_neg (by omega), if_neg (by omega), if_neg (by omega), if_neg (by omega), if_neg (by omega), if_neg (by omega), if_neg (by omega), if_pos (by omega), show N + 29 + nz + ns + t - (N + 29 + nz + ns) = t by omega]
theorem len_ok {k : Nat} (hk : k ≤ 60000000) : (¬ (nI k < 0 ∨ 60000000 < k)) = True := eq_true (fun z => z.elim (nI_pos (by omega)) (fun w => by omega))
theorem N_wF {g : AH} {i k : Nat} {v : Value} : hN (wF g i k v) = hN g := rfl
theorem k_wF {g : AH} {i k j : Nat} {v : Value} : hk (wF g i k v) j = hk g j := rfl
theorem l_wF {g : AH} {i k j : Nat} {v : Value} : hl (wF g i k v) j = hl g j := rfl
theorem N_wA {g : AH} {i : Nat} {v : Nat → Int32} : hN (wA g i v) = hN g := rfl
theorem k_wA {g : AH} {i j : Nat} {v : Nat → Int32} : hk (wA g i v) j = hk g j := rfl
theorem l_wA {g : AH} {i j : Nat} {v : Nat → Int32} : hl (wA g i v) j = hl g j := rfl
theorem F_wA {g : AH} {i j k : Nat} {v : Nat → Int32} : hF (wA g i v) j k = hF g j k := rfl
theorem F_alA {g : AH} {i m j k : Nat} : hF (alA g i m) j k = hF g j k := rfl
theorem N_alA {g : AH} {i m : Nat} : hN (alA g i m) = hN g + 1 := rfl
theorem D2_ad {x i : Nat} (h : Ad N (D2F N nz ns x) nz ns i) : (N ≤ i ∧ i < N + 49 + nz + ns) ∨ i = x := by
  rcases h with h | ⟨j, hj, h⟩ | ⟨z, hz, h⟩ | ⟨s, hs, h⟩ | ⟨t, ht, h⟩
  · omega
  · rcases (show j = 0 ∨ j = 1 ∨ j = 2 ∨ j = 3 ∨ j = 4 by omega) with rfl | rfl | rfl | rfl | rfl
    · have h : i = N + 26 := h
      omega
    · have h : i = N + 27 + nz := h
      omega
    · have h : i = N + 28 + nz := h
      omega
    · exact Or.inr h
    · have h : i = N + 5 := h
      omega
  · have h : i = N + 27 + z := h
    omega
  · have h : i = N + 29 + nz + s := h
    omega
  · have h : i = N + 29 + nz + ns + t := h
    omega
theorem s_lcopy (h : LLn g B l D nz ns q sa tv pg n f a p) (hBn : ∀ i, B i → i < hN g) : ∃ g', (Sx noW 400 g g' ∧ LLn g' B (hN g) (D2F (hN g) nz ns (D 0 3)) nz ns q sa tv pg n f a p) ∧ ∀ d K, EvM (d + 4) 86 [.ref l] g K = K (.inl (some (.ref (hN g)))) g' := by
  have hL := h.1
  have hI := h.2.2.2.1
  have n6 := h.2.2.2.2.2.1.2
  have n20 := hI.1.2.1
  have hb := h.2.1.2
  have d03 : D 0 3 < hN g := hb _ (Or.inr (Or.inl ⟨3, by omega, rfl⟩))
  obtain ⟨y, y1, y2⟩ := hL.1.2.2.2.2.1
  obtain ⟨N, hN0⟩ : ∃ N, N = hN g := ⟨_, rfl⟩
  have c1s : Sm noW g (alO g 7 10 (dfl 6)) := Sm.alO
  have n0 : hN (alO g 7 10 (dfl 6)) = N + 1 := by rw [hN0]; rfl
  have m0 : hS (alO g 7 10 (dfl 6)) = hS g + 10 := rfl
  have k0 : hk (alO g 7 10 (dfl 6)) N = 7 := by rw [hN0]; exact alO_k
  obtain ⟨gi, ⟨i1, i2, i3⟩, ⟨i4, -, -, -, -, i5⟩, ⟨-, -, -, -, i6, -⟩, ri⟩ := s_linit (g := alO g 7 10 (dfl 6)) (a := N) k0 (by omega)
  rw [n0] at i2 i5 i6
  rw [m0] at i3
  have ei : N + 1 + 4 = N + 5 := by omega
  rw [ei] at i5 i6
  have k7 : hk gi N = 7 := (i1.k (by omega)).trans k0
  -- the numbers
  obtain ⟨gA, hgA⟩ : ∃ x, x = wF (alA (wF (wF (wF (wF (wF gi N 0 (.int (f 1))) N 1 (.int (q 1))) N 2 (.int (q 2))) N 3 (.int y)) N 4 tv) 14 nz) N 5 (.ref (N + 26)) := ⟨_, rfl⟩
  have nA : hN gA = N + 27 := by rw [hgA]; show hN gi + 1 = _; omega
  have mA : hS gA = hS g + 130 + nz := by rw [hgA]; show hS gi + nz = _; omega
  have sA1 : Sm (fun i => i = N) gi gA := by
    have w : ∀ (x : AH) (k : Nat) (v : Value), Sm (fun i => i = N) x (wF x N k v) := fun _ _ _ => Sm.wF rfl
    rw [hgA]
    exact (((((w _ _ _).tr (w _ _ _)).tr (w _ _ _)).tr (w _ _ _)).tr (w _ _ _)).tr (Sm.alA.tr (w _ _ _))
  have sA : Sx noW 136 g gA := ⟨((c1s.mo (V := fun i => i = N) (fun _ _ z => z.elim)).tr (i1.tr sA1)).mo (fun i hi z => by omega), by omega, by omega⟩
  have LA := hL.keep sA.1 (fun _ _ z => z) (fun i hi => ⟨hb i hi, fun z => z⟩)
  have fF : ∀ (x : AH) (v : Value) (j k : Nat), ¬ k = j → hF (wF x N j v) N k = hF x N k := fun x v j k hj => wF_nk hj
  have fA : ∀ (x : AH) (k : Nat), hF (alA x 14 nz) N k = hF x N k := fun _ _ => rfl
  have xF : cpF N q f tv y gA := by
    refine ⟨⟨(sA1.k (by omega)).trans k7, ?_, ?_, ?_, ?_, ?_, ?_, ?_⟩, (sA1.k (by omega)).trans i6.1, (sA1.l (by omega)).trans i6.2⟩
    · rw [hgA, fF _ _ _ _ (by omega), fA, fF _ _ _ _ (by omega), fF _ _ _ _ (by omega), fF _ _ _ _ (by omega), fF _ _ _ _ (by omega), wF_eq]
    · rw [hgA, fF _ _ _ _ (by omega), fA, fF _ _ _ _ (by omega), fF _ _ _ _ (by omega), fF _ _ _ _ (by omega), wF_eq]
    · rw [hgA, fF _ _ _ _ (by omega), fA, fF _ _ _ _ (by omega), fF _ _ _ _ (by omega), wF_eq]
    · rw [hgA, fF _ _ _ _ (by omega), fA, fF _ _ _ _ (by omega), wF_eq]
    · rw [hgA, fF _ _ _ _ (by omega), fA, wF_eq]
    · rw [hgA, wF_eq]
    · rw [hgA, fF _ _ _ _ (by omega), fA, fF _ _ _ _ (by omega), fF _ _ _ _ (by omega), fF _ _ _ _ (by omega), fF _ _ _ _ (by omega), fF _ _ _ _ (by omega), i5]
  have xZ : cpZ N nz D g gA 0 := by
    refine ⟨?_, fun z hz => by omega⟩
    have e : N + 26 = hN (wF (wF (wF (wF (wF gi N 0 (.int (f 1))) N 1 (.int (q 1))) N 2 (.int (q 2))) N 3 (.int y)) N 4 tv) := by show _ = hN gi; omega
    rw [hgA, e]
    exact ⟨alA_k, alA_l⟩
  obtain ⟨gB, sB, nB, bF, bZ, rB⟩ := cp_z hL hb hN0 n6 nz 0 136 gA (by omega) sA nA xF xZ
  -- heats, sheets
  obtain ⟨gC, hgC⟩ : ∃ x, x = wF (alA (wF (wA (alA gB 10 nz) (N + 27 + nz) (hA gB (D 0 1))) N 6 (.ref (N + 27 + nz))) 15 ns) N 7 (.ref (N + 28 + nz)) := ⟨_, rfl⟩
  have nC : hN gC = N + 29 + nz := by rw [hgC]; show hN gB + 1 + 1 = _; omega
  have mC : hS gC = hS gB + nz + ns := by rw [hgC]; rfl
  have sC1 : Sm (fun i => i = N) gB gC := by
    rw [hgC]
    exact ((((Sm.alA (W := fun i => i = N ∨ i = N + 27 + nz)).tr (Sm.wA (Or.inr rfl))).tr (Sm.wF (Or.inl rfl))).tr (Sm.alA.tr (Sm.wF (Or.inl rfl)))).mo (fun i hi z => by omega)
  have sC : Sx noW (136 + 6 * nz + nz + ns + 2) g gC := ⟨(sB.1.mo (V := fun i => i = N) (fun _ _ z => z.elim)).tr sC1 |>.mo (fun i hi z => by omega), by have := sB.2.1; omega, by have := sB.2.2; omega⟩
  have LB := hL.keep sB.1 (fun _ _ z => z) (fun i hi => ⟨hb i hi, fun z => z⟩)
  have LC := hL.keep sC.1 (fun _ _ z => z) (fun i hi => ⟨hb i hi, fun z => z⟩)
  have d01 : D 0 1 < hN g := hb _ (Or.inr (Or.inl ⟨1, by omega, rfl⟩))
  have d02 : D 0 2 < hN g := hb _ (Or.inr (Or.inl ⟨2, by omega, rfl⟩))
  have lN : l < hN g := hb _ (Or.inl rfl)
  have cH : cpH N nz D g gC := by
    refine ⟨?_, ⟨?_, ?_⟩, ?_⟩
    · rw [hgC, wF_nk (by omega)]
      show hF (wF _ N 6 _) N 6 = _
      rw [wF_eq]
    · rw [hgC]
      show hk (alA (wF (wA (alA gB 10 nz) (N + 27 + nz) (hA gB (D 0 1))) N 6 (.ref (N + 27 + nz))) 15 ns) (N + 27 + nz) = 10
      rw [(Sm.alA (W := noW)).k (by show _ < hN gB + 1; omega)]
      show hk (alA gB 10 nz) (N + 27 + nz) = 10
      rw [← nB]
      exact alA_k
    · rw [hgC]
      show hl (alA (wF (wA (alA gB 10 nz) (N + 27 + nz) (hA gB (D 0 1))) N 6 (.ref (N + 27 + nz))) 15 ns) (N + 27 + nz) = nz
      rw [(Sm.alA (W := noW)).l (by show _ < hN gB + 1; omega)]
      show hl (alA gB 10 nz) (N + 27 + nz) = nz
      rw [← nB]
      exact alA_l
    · rw [hgC]
      show hA (alA (wF (wA (alA gB 10 nz) (N + 27 + nz) (hA gB (D 0 1))) N 6 (.ref (N + 27 + nz))) 15 ns) (N + 27 + nz) = _
      rw [(Sm.alA (W := noW)).A (by show _ < hN gB + 1; omega) (fun z => z)]
      show hA (wA (alA gB 10 nz) (N + 27 + nz) (hA gB (D 0 1))) (N + 27 + nz) = _
      rw [wA_eq, sB.1.A d01 (fun z => z)]
  have cS : cpS N nz ns a p gC 0 := by
    refine ⟨⟨?_, ?_, ?_⟩, fun s hs => by omega⟩
    · rw [hgC, wF_eq]
    · rw [hgC]
      have e : N + 28 + nz = hN (wF (wA (alA gB 10 nz) (N + 27 + nz) (hA gB (D 0 1))) N 6 (.ref (N + 27 + nz))) := by show _ = hN gB + 1; omega
      rw [e]
      exact alA_k
    · rw [hgC]
      have e : N + 28 + nz = hN (wF (wA (alA gB 10 nz) (N + 27 + nz) (hA gB (D 0 1))) N 6 (.ref (N + 27 + nz))) := by show _ = hN gB + 1; omega
      rw [e]
      exact alA_l
  have bF0 : cpF N q f tv y gC := by
    have e : ∀ k, ¬ k = 6 → ¬ k = 7 → hF gC N k = hF gB N k := fun k h6 h7 => by
      rw [hgC, wF_nk h7]
      show hF (wF _ N 6 _) N k = _
      rw [wF_nk h6]
      rfl
    refine ⟨⟨(sC1.k (by omega)).trans bF.1.1, ?_, ?_, ?_, ?_, ?_, ?_, ?_⟩, (sC1.k (by omega)).trans bF.2.1, (sC1.l (by omega)).trans bF.2.2⟩
    · rw [e 0 (by omega) (by omega)]; exact bF.1.2.1
    · rw [e 1 (by omega) (by omega)]; exact bF.1.2.2.1
    · rw [e 2 (by omega) (by omega)]; exact bF.1.2.2.2.1
    · rw [e 3 (by omega) (by omega)]; exact bF.1.2.2.2.2.1
    · rw [e 4 (by omega) (by omega)]; exact bF.1.2.2.2.2.2.1
    · rw [e 5 (by omega) (by omega)]; exact bF.1.2.2.2.2.2.2.1
    · rw [e 9 (by omega) (by omega)]; exact bF.1.2.2.2.2.2.2.2
  obtain ⟨gD, sD, nD, dF, dZ, dH, dS, rD⟩ := cp_s hL hb hN0 n20 ns 0 _ gC (by omega) sC nC bF0 (bZ.keep sC1 (by omega) (fun z hz => by omega) (by omega)) cH cS
  -- bands
  obtain ⟨gE, hgE⟩ : ∃ x, x = wF gD N 8 (.ref (D 0 3)) := ⟨_, rfl⟩
  have nE : hN gE = N + 29 + nz + ns := by rw [hgE]; exact nD
  have sE1 : Sm (fun i => i = N) gD gE := by rw [hgE]; exact Sm.wF rfl
  have sE : Sx noW (136 + 6 * nz + nz + ns + 2 + 5 * ns) g gE := ⟨(sD.1.mo (V := fun i => i = N) (fun _ _ z => z.elim)).tr sE1 |>.mo (fun i hi z => by omega), by have := sD.2.1; omega, by have := sD.2.2; rw [hgE]; exact this⟩
  have LD := hL.keep sD.1 (fun _ _ z => z) (fun i hi => ⟨hb i hi, fun z => z⟩)
  have LE := hL.keep sE.1 (fun _ _ z => z) (fun i hi => ⟨hb i hi, fun z => z⟩)
  have eF : ∀ k, ¬ k = 8 → hF gE N k = hF gD N k := fun k h8 => by rw [hgE, wF_nk h8]
  have eF0 : cpF N q f tv y gE := by
    refine ⟨⟨(sE1.k (by omega)).trans dF.1.1, ?_, ?_, ?_, ?_, ?_, ?_, ?_⟩, (sE1.k (by omega)).trans dF.2.1, (sE1.l (by omega)).trans dF.2.2⟩
    · rw [eF 0 (by omega)]; exact dF.1.2.1
    · rw [eF 1 (by omega)]; exact dF.1.2.2.1
    · rw [eF 2 (by omega)]; exact dF.1.2.2.2.1
    · rw [eF 3 (by omega)]; exact dF.1.2.2.2.2.1
    · rw [eF 4 (by omega)]; exact dF.1.2.2.2.2.2.1
    · rw [eF 5 (by omega)]; exact dF.1.2.2.2.2.2.2.1
    · rw [eF 9 (by omega)]; exact dF.1.2.2.2.2.2.2.2
  have eH : cpH N nz D g gE := ⟨(eF 6 (by omega)).trans dH.1, ⟨(sE1.k (by omega)).trans dH.2.1.1, (sE1.l (by omega)).trans dH.2.1.2⟩, (sE1.A (by omega) (by omega)).trans dH.2.2⟩
  have eS : cpS N nz ns a p gE ns := by
    refine ⟨⟨(eF 7 (by omega)).trans dS.1.1, (sE1.k (by omega)).trans dS.1.2.1, (sE1.l (by omega)).trans dS.1.2.2⟩, fun s hs' => ?_⟩
    have b : N + 29 + nz + s < hN gD := by omega
    rw [sE1.R (by omega) (by omega), sE1.k b, sE1.F b (by omega), sE1.F b (by omega), sE1.F b (by omega), sE1.F b (by omega)]
    exact dS.2 s hs'
  obtain ⟨gF, sF, nF, fF1, fZ, fH, fS, f8, fT, rF⟩ := cp_t hL hb hN0 20 0 _ gE (by omega) sE (by omega) eF0 (dZ.keep sE1 (by omega) (fun z hz => by omega) (by omega)) eH eS (by rw [hgE, wF_eq]) (fun t ht => by omega)
  have hb' := hL.keep sF.1 (fun _ _ z => z) (fun i hi => ⟨hb i hi, fun z => z⟩)
  have tF := h.2.2.1.keep sF.1 (fun _ _ z => z)
  rw [← hN0] at hBn d03 ⊢
  refine ⟨gF, ⟨sF.mo (fun _ _ z => z) (by omega), ⟨⟨fF1.1.1, fF1.1.2.1, fF1.1.2.2.1, fF1.1.2.2.2.1, ⟨y, fF1.1.2.2.2.2.1, y2⟩, fF1.1.2.2.2.2.2.1, fF1.1.2.2.2.2.2.2.1, fH.1, fS.1.1, f8, fF1.1.2.2.2.2.2.2.2⟩, ⟨fZ.1, fH.2.1, fS.1.2, hb'.2.1.2.2.2.1, fF1.2⟩, fun z hz => ?_, fun z hz => ?_, fun s hs => fS.2 s hs, fun t ht => hb'.2.2.2.2.2.1 t ht, fun t ht => ?_⟩, ⟨⟨⟨c2F N nz ns, c2_ok d03⟩, fun i hi hw => ?_⟩, fun i hi => ?_⟩, tF, h.2.2.2⟩, fun d K => ?_⟩
  · obtain ⟨z1, z2, z3⟩ := fZ.2 z hz
    refine ⟨z1, z2, ?_⟩
    show hA gF (N + 27 + z) 0 = _ ∧ hA gF (N + 27 + z) 1 = _ ∧ hA gF (N + 27 + z) 2 = _ ∧ hA gF (N + 27 + z) 3 = _ ∧ hA gF (N + 27 + z) 4 = _
    rw [z3]
    exact (hL.2.2.1 z hz).2.2
  · show hA gF (N + 27 + nz) z = _
    rw [fH.2.2]
    exact hL.2.2.2.1 z hz
  · obtain ⟨t1, t2, t3⟩ := fT t ht
    refine ⟨t1, t2, ?_⟩
    show hA gF (N + 29 + nz + ns + t) 0 = _ ∧ hA gF (N + 29 + nz + ns + t) 1 = _ ∧ hA gF (N + 29 + nz + ns + t) 2 = _ ∧ hA gF (N + 29 + nz + ns + t) 3 = _
    rw [t3]
    exact (hL.2.2.2.2.2.2 t ht).2.2
  · rcases D2_ad hw with ⟨z, -⟩ | z
    · have := hBn i hi
      omega
    · exact h.2.1.1.2 i hi (Or.inr (Or.inl ⟨3, by omega, z⟩))
  · rcases D2_ad hi with ⟨-, z⟩ | z
    · omega
    · omega
  · rw [nI_0] at rB rD rF
    have Li := hL.keep ((c1s.mo (V := fun i => i = N) (fun _ _ z => z.elim)).tr i1) (fun i hi z => by have := hBn i hi; omega) (fun i hi => ⟨hb i hi, fun z => by have := hb i hi; omega⟩)
    have li : ¬ l = N := by omega
    have rl : ∀ (x : AH) (k : Nat) (v : Value) (m : Nat), hF (wF x N k v) l m = hF x l m := fun _ _ _ _ => wF_ne li
    have kN : hN g = N := hN0.symm
    have fy : hF gi l 3 = .int y := by
      rw [i1.F (by omega) (by omega), c1s.F lN (fun z => z)]
      exact y1
    have pA : ∀ m, hk (alA (wF (wF (wF (wF (wF gi N 0 (.int (f 1))) N 1 (.int (q 1))) N 2 (.int (q 2))) N 3 (.int y)) N 4 tv) 14 m) N = 7 := fun m => ((Sm.alA (W := noW)).k (by show N < hN gi; omega)).trans k7
    have key : ∀ d K, EvM (d + 4) 86 [.ref l] g K = Ev (d + 4) 86 62 [some (.ref l), some (.ref N), some (.int 0)] [] gA K := fun d K => by
      rw [hgA]
      rcases h.2.2.1 with ⟨rfl, -⟩ | ⟨a1, -, -, -, rfl, -⟩
      · simp only [i86_0, i86_3, i86_4, i86_7, i86_8, i86_9, i86_10, i86_13, i86_16, i86_17, i86_18, i86_21, i86_24, i86_25, i86_26, i86_29, i86_32, i86_33, i86_34, i86_37, i86_40, i86_41, i86_42, i86_45, i86_48, i86_49, i86_50, i86_53, i86_54, i86_57, i86_60, i86_61, in86, i86_45_N, nl_i, nl_r, nl_0, nl_j, nb0, nb1, nbI, orv_s, konN_v, konN_n, konN_e, true_and, and_true, and_self, if_true, if_false, ite_true, ite_false, isR_ref, true_or, or_true, isR_null, rg10, rg11, rg12, rg13, rg14, rg15, rg16, rh13, rh14, rh15, rh16, bI_T, bI_F, bI_Fb, i1z, Bool.false_eq_true, kN, k0, ri, lc_k Li, lc_f0 Li, lc_f1 Li, lc_f2 Li, lc_f4 Li, lc_f5 Li, lc_f6 Li, lc_f7 Li, lc_f8 Li, lc_f9 Li, lc_k0 Li, lc_l0 Li, lc_k1 Li, lc_l1 Li, lc_k2 Li, lc_l2 Li, lc_k3 Li, lc_l3 Li, lc_k4 Li, lc_l4 Li, k7, rl, k_wF, l_wF, N_wF, i2, nI_clamp (show nz < 2 ^ 31 by omega), len_ok (show nz ≤ 60000000 by omega), pA, fy]
      · simp only [i86_0, i86_3, i86_4, i86_7, i86_8, i86_9, i86_10, i86_13, i86_16, i86_17, i86_18, i86_21, i86_24, i86_25, i86_26, i86_29, i86_32, i86_33, i86_34, i86_37, i86_40, i86_41, i86_42, i86_45, i86_48, i86_49, i86_50, i86_53, i86_54, i86_57, i86_60, i86_61, in86, nl_i, nl_r, nl_0, nl_j, nb0, nb1, nbI, orv_s, konN_v, konN_n, konN_e, true_and, and_true, and_self, if_true, if_false, ite_true, ite_false, isR_ref, true_or, or_true, isR_null, rg10, rg11, rg12, rg13, rg14, rg15, rg16, rh13, rh14, rh15, rh16, bI_T, bI_F, bI_Fb, i1z, Bool.false_eq_true, kN, k0, ri, lc_k Li, lc_f0 Li, lc_f1 Li, lc_f2 Li, lc_f4 Li, lc_f5 Li, lc_f6 Li, lc_f7 Li, lc_f8 Li, lc_f9 Li, lc_k0 Li, lc_l0 Li, lc_k1 Li, lc_l1 Li, lc_k2 Li, lc_l2 Li, lc_k3 Li, lc_l3 Li, lc_k4 Li, lc_l4 Li, k7, rl, k_wF, l_wF, N_wF, i2, nI_clamp (show nz < 2 ^ 31 by omega), len_ok (show nz ≤ 60000000 by omega), pA, fy]
    have wN : ∀ (x : AH) (j : Nat) (v : Value), hN (wF x N j v) = hN x := fun _ _ _ => rfl
    have kB : hk (alA gB 10 nz) (N + 27 + nz) = 10 := by rw [← nB]; exact alA_k
    have kB2 : hk (alA gB 10 nz) N = 7 := ((Sm.alA (W := noW)).k (by omega)).trans bF.1.1
    have kB3 : hk (alA gB 10 nz) l = 7 := ((Sm.alA (W := noW)).k (by omega)).trans (lc_k LB)
    have kB4 : hk (alA gB 10 nz) (D 0 2) = 15 := ((Sm.alA (W := noW)).k (by omega)).trans (lc_k2 LB)
    have kB5 : hl (alA gB 10 nz) (D 0 2) = ns := ((Sm.alA (W := noW)).l (by omega)).trans (lc_l2 LB)
    have kB6 : hk (alA (wF (wA (alA gB 10 nz) (N + 27 + nz) (hA gB (D 0 1))) N 6 (.ref (N + 27 + nz))) 15 ns) N = 7 := ((Sm.alA (W := noW)).k (by show N < hN gB + 1; omega)).trans kB2
    have e28 : N + 27 + nz + 1 = N + 28 + nz := by omega
    rw [key]
    simp only [rB, i86_95, i86_96, i86_97, i86_100, i86_103, i86_106, i86_109, i86_110, i86_111, i86_114, i86_115, i86_118, i86_121, i86_122, nl_i, nl_r, nl_0, nl_j, nb0, nb1, nbI, orv_s, konN_v, konN_n, konN_e, true_and, and_true, and_self, if_true, if_false, ite_true, ite_false, isR_ref, true_or, or_true, isR_null, rg10, rg11, rg12, rg13, rg14, rg15, rg16, rh13, rh14, rh15, rh16, bI_T, bI_F, bI_Fb, i1z, Bool.false_eq_true, lc_k LB, lc_f0 LB, lc_f1 LB, lc_f2 LB, lc_f4 LB, lc_f5 LB, lc_f6 LB, lc_f7 LB, lc_f8 LB, lc_f9 LB, lc_k0 LB, lc_l0 LB, lc_k1 LB, lc_l1 LB, lc_k2 LB, lc_l2 LB, lc_k3 LB, lc_l3 LB, lc_k4 LB, lc_l4 LB, bF.1.1, nB, k_wA, l_wA, N_wA, F_wA, k_wF, l_wF, N_wF, F_alA, N_alA, rl, kB, kB2, kB3, kB4, kB5, kB6, e28, nI_clamp (show ns < 2 ^ 31 by omega), len_ok (show ns ≤ 60000000 by omega), ← hgC, rD, i86_153, i86_154, i86_155, i86_158, i86_161, i86_162, lc_k LD, lc_f0 LD, lc_f1 LD, lc_f2 LD, lc_f4 LD, lc_f5 LD, lc_f6 LD, lc_f7 LD, lc_f8 LD, lc_f9 LD, lc_k0 LD, lc_l0 LD, lc_k1 LD, lc_l1 LD, lc_k2 LD, lc_l2 LD, lc_k3 LD, lc_l3 LD, lc_k4 LD, lc_l4 LD, dF.1.1, ← hgE, rF]
end CPZ
