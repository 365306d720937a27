/-! RANDOM LINE: the heat's tree -/
theorem litHe {g : AH} : StrR g (fun _ => False) (litV 9) (wrd 3 ++ [32]) := lit_str (by decide) (by decide) (by decide) (by decide) (by decide)
theorem BTb.keep {g g' : AH} {l M : Nat} {a : Nat → Nat → Int32} {W : Nat → Prop} (x : BTb g l M a) (hs : Sm W g g') (h1 : l + 4 < hN g ∧ ¬ W (l + 4)) (hw : ∀ i, M ≤ i → ¬ W i) : BTb g' l M a := fun t ht => by
  rw [hs.R h1.1 h1.2]
  exact (x t ht).keep hs hw
theorem RLn.tm {g : AH} {l n q1 q2 : Nat} {zs : List Z5} {tv tw : Value} (x : RLn g l n q1 q2 zs tv) : RLn (wF g l 4 tw) l n q1 q2 zs tw := by
  obtain ⟨⟨⟨kl, lN⟩, ⟨f0, f1, f2, f3, f4⟩, ⟨f6, f7, f8, f9⟩, nN⟩, ⟨zr, y1, y2⟩, y3⟩ := x
  exact ⟨⟨⟨kl, lN⟩, ⟨(wF_nk (by omega)).trans f0, (wF_nk (by omega)).trans f1, (wF_nk (by omega)).trans f2, (wF_nk (by omega)).trans f3, wF_eq⟩, ⟨(wF_nk (by omega)).trans f6, (wF_nk (by omega)).trans f7, (wF_nk (by omega)).trans f8, (wF_nk (by omega)).trans f9⟩, nN⟩, ⟨zr, (wF_nk (by omega)).trans y1, y2⟩, y3⟩
section TRE
variable {d u r n l q1 q2 : Nat} {g : AH} {T : Nat → Bool} {U S A : Nat → Nat → Int32} {J : Nat → Nat → Int64} {G : Nat → Nat} {K : AO → AH → Prop} {b : List Nat} {zs : List Z5} {l6 l7 l8 : Option Value} {a : Nat → Nat → Int32}
theorem s_tree (x : FX g T U S A J G) (hT : ∀ i, T i = true → i < l) (h140 : 140 ≤ l) (hu : ¬ CW T u ∧ u < l) (hr : ¬ CW T r ∧ r < l ∧ ¬ r = u) (hb : BUF g u S A b) (hrn : RN g r) (hL : RLn g l n q1 q2 zs .null) (hz : 0 < zs.length) (hbt : BTb g l (l + 28 + 2 * zs.length) a) (hbl : b.length ≤ 500) : ∃ ht tv L g' S' A', ht.length ≤ 60 ∧ FX g' T U S' A' J G ∧ BUF g' u S' A' (b ++ ht) ∧ RN g' r ∧ RLn g' l n q1 q2 zs tv ∧ BTb g' l (l + 28 + 2 * zs.length) a ∧ HtK g' (fun i => l + 28 + 2 * zs.length ≤ i ∧ i < hN g') ht tv L ∧ (Sm (RW u r l) g g' ∧ hN g' ≤ hN g + 64000 ∧ hS g' ≤ hS g + 64000) ∧ WS S S' A A' ∧ ∀ d K, Ev (d + 11) 140 350 [some (.ref 0), some (.ref u), some (.ref r), some (.ref l), some (.int (nI n)), some (.int 0), l6, l7, l8] [] g K = Ev (d + 11) 140 398 [some (.ref 0), some (.ref u), some (.ref r), some (.ref l), some (.int (nI n)), some (.int 0), l6, l7, l8] [] g' K := by
  have hM := hL.1.2.2.2
  obtain ⟨M, eM⟩ : ∃ M, M = l + 28 + 2 * zs.length := ⟨_, rfl⟩
  rw [← eM] at hbt hM ⊢
  have ho : ∀ i, CW T i → i < l := fun i hi => by
    rcases hi with hi | hi
    · have := own_lt hi; omega
    · exact hT i hi
  have nRW : ∀ i, l ≤ i → ¬ (i = u ∨ own i = true) := fun i hi z => by
    rcases z with z | z
    · omega
    · have := own_lt z; omega
  have oR : ¬ (r = u ∨ own r = true) := fun z => by
    rcases z with z | z
    · exact hr.2.2 z
    · exact hr.1 (Or.inl z)
  obtain ⟨k1, g1, k1l, ⟨s1, n1, m1⟩, r1, e1⟩ := s_below (m := 2) hrn (by omega) (by omega)
  have lr : ¬ l = r := by omega
  have kr : hk g r = 9 := hrn.1.1
  have x1 : FX g1 T U S A J G := x.law s1 (fun i hi z => hr.1 (by rw [← z]; exact hi))
  have b1 : BUF g1 u S A b := hb.keep s1 (by have := hu.2; omega) (fun z => hr.2.2 z.symm)
  have L1 : RLn g1 l n q1 q2 zs .null := hL.keep s1 hz (fun i h1 _ h3 => by omega)
  have t1 : BTb g1 l M a := hbt.keep s1 ⟨by omega, by omega⟩ (fun i hi z => by omega)
  have j2 : (2 : Int32) = nI 2 := rfl
  have j3 : (3 : Int32) = nI 3 := rfl
  have e1' := fun d K => e1 (d + 10) K
  rw [← j2] at e1'
  by_cases hk0 : k1 = 0
  · -- a tree
    rw [hk0, nI_0] at e1'
    obtain ⟨dp, g2, dpl, ⟨s2, n2, m2⟩, r2, e2⟩ := s_below (m := 3) r1 (by omega) (by omega)
    obtain ⟨g3, aa, tx, L, V, ⟨s3, n3, m3⟩, r3, nd3, e3⟩ := s_random dp g2 (by omega) r2
    obtain ⟨g4, hg4⟩ : ∃ y, y = wF g3 l 4 (.ref aa) := ⟨_, rfl⟩
    have s4 : Sm (fun i => i = l) g3 g4 := by rw [hg4]; exact Sm.wF rfl
    have n4 : hN g4 = hN g3 := by rw [hg4]; rfl
    have m4 : hS g4 = hS g3 := by rw [hg4]; rfl
    have q1' := s1.1
    have q2' := s2.1
    have q3' := s3.1
    have x4 : FX g4 T U S A J G := ((x1.law s2 (fun i hi z => hr.1 (by rw [← z]; exact hi))).law s3 (fun i hi z => hr.1 (by rw [← z]; exact hi))).law s4 (fun i hi z => by have := ho i hi; omega)
    have b4 : BUF g4 u S A b := ((b1.keep s2 (by have := hu.2; omega) (fun z => hr.2.2 z.symm)).keep s3 (by have := hu.2; omega) (fun z => hr.2.2 z.symm)).keep s4 (by have := hu.2; omega) (by have := hu.2; omega)
    have L3 : RLn g3 l n q1 q2 zs .null := (L1.keep s2 hz (fun i h1 _ h3 => by omega)).keep s3 hz (fun i h1 _ h3 => by omega)
    have L4 : RLn g4 l n q1 q2 zs (.ref aa) := by rw [hg4]; exact L3.tm
    have t4 : BTb g4 l M a := ((t1.keep s2 ⟨by omega, by omega⟩ (fun i hi z => by omega)).keep s3 ⟨by omega, by omega⟩ (fun i hi z => by omega)).keep s4 ⟨by omega, by omega⟩ (fun i hi z => by omega)
    have nd4 : NodeR g4 (fun i => hN g2 ≤ i) dp aa tx L V := nd3.keep s4 (fun i hi z => by have hi : hN g2 ≤ i := hi; omega)
    obtain ⟨g5, S5, A5, x5, b5, w5, e5⟩ := s_write (v := litV 9) (bs := wrd 3 ++ [32]) x4 ⟨hu.1, by have := hu.2; omega⟩ b4 litHe (fun _ z => z.elim) (by show b.length + 5 ≤ 660; omega)
    have s5 := w5.1.1
    have n5 := w5.1.2.1
    have m5 := w5.1.2.2
    have nd5 : NodeR g5 (fun i => hN g2 ≤ i) dp aa tx L V := nd4.keep s5 (fun i hi => nRW i (by have hi : hN g2 ≤ i := hi; omega))
    have p4 : 2 ^ dp ≤ 4 := by
      have : dp = 0 ∨ dp = 1 ∨ dp = 2 := by omega
      rcases this with e | e | e <;> rw [e] <;> decide
    have p8 : 2 ^ (dp + 1) ≤ 8 := by rw [Nat.pow_succ]; omega
    obtain ⟨g6, v, ⟨s6, n6, m6⟩, st6, e6⟩ := s_text dp g5 _ (by omega) nd5 0 (by omega)
    have q6' := s6.1
    have tl := nd5.len 0
    have x6 : FX g6 T U S5 A5 J G := x5.law s6 (fun _ _ z => z)
    have b6 : BUF g6 u S5 A5 (b ++ (wrd 3 ++ [32])) := b5.keep s6 (by have := hu.2; omega) (fun z => z)
    have bl6 : (b ++ (wrd 3 ++ [32])).length = b.length + 5 := by rw [List.length_append]; rfl
    obtain ⟨g7, S7, A7, x7, b7, w7, e7⟩ := s_write x6 ⟨hu.1, by have := hu.2; omega⟩ b6 st6 (fun i hi => nRW i (by have hi : hN g5 ≤ i := hi; omega)) (by rw [bl6]; omega)
    have s7 := w7.1.1
    have n7 := w7.1.2.1
    have m7 := w7.1.2.2
    obtain ⟨g8, S8, A8, x8, b8, w8, e8⟩ := s_write (v := litV 7) (bs := [59]) x7 ⟨hu.1, by have := hu.2; omega⟩ b7 lit7 (fun _ z => z.elim) (by rw [List.length_append, bl6]; show b.length + 5 + (tx 0).length + 1 ≤ 660; omega)
    have s8 := w8.1.1
    have n8 := w8.1.2.1
    have m8 := w8.1.2.2
    have s58 : Sm (fun i => i = u ∨ own i = true) g4 g8 := ((s5.tr (s6.mo (fun _ _ z => z.elim))).tr s7).tr s8
    have s14 : Sm (fun i => i = r ∨ i = l) g g4 := (((s1.tr s2).tr s3).mo (fun i _ z => Or.inl z)).tr (s4.mo (fun i _ z => Or.inr z))
    have nd8 : NodeR g8 (fun i => M ≤ i ∧ i < hN g8) dp aa tx L V := (((nd5.keep s6 (fun _ _ z => z)).keep s7 (fun i hi => nRW i (by have hi : hN g2 ≤ i := hi; omega))).keep s8 (fun i hi => nRW i (by have hi : hN g2 ≤ i := hi; omega))).moB (fun i hi hb => ⟨by have hb : hN g2 ≤ i := hb; omega, hi⟩)
    have up2' : NodeR g8 (fun i => M ≤ i ∧ i < hN g8) 2 aa tx L V := by
      have : dp = 0 ∨ dp = 1 ∨ dp = 2 := by omega
      rcases this with e | e | e
      · rw [e] at nd8; exact nd8.up.up
      · rw [e] at nd8; exact nd8.up
      · rw [e] at nd8; exact nd8
    have q8' := s58.1
    refine ⟨htT (tx 0), .ref aa, L, g8, S8, A8, ?_, x8, ?_, (r3.keep s4 (by omega)).keep s58 oR, L4.keep s58 hz (fun i h1 _ h3 => absurd h3 (nRW i h1)), t4.keep s58 ⟨by omega, nRW _ (by omega)⟩ (fun i hi => nRW i (by omega)), Or.inr ⟨aa, tx, V, rfl, rfl, up2'⟩, ⟨?_, ?_, ?_⟩, ⟨fun i hi => ?_, fun k h => ?_, fun i hi => ?_⟩, fun d K => ?_⟩
    · show (wrd 3 ++ 32 :: (tx 0 ++ [59])).length ≤ 60
      rw [List.length_append, List.length_cons, List.length_append]
      show 4 + ((tx 0).length + 1 + 1) ≤ 60
      omega
    · have e : b ++ htT (tx 0) = b ++ (wrd 3 ++ [32]) ++ tx 0 ++ [59] := by
        unfold htT
        rw [List.append_assoc, List.append_assoc, List.append_assoc]
        rfl
      rw [e]
      exact b8
    · exact (s14.mo (fun i _ z => by
        rcases z with z | z
        · exact Or.inr (Or.inl z)
        · exact Or.inr (Or.inr (Or.inr (by omega))))).tr (s58.mo (fun i _ z => by
        rcases z with z | z
        · exact Or.inl z
        · exact Or.inr (Or.inr (Or.inl z))))
    · omega
    · omega
    · exact (w8.2.1 i hi).trans ((w7.2.1 i hi).trans (w5.2.1 i hi))
    · exact (w8.2.2.1 k h).trans ((w7.2.2.1 k h).trans (w5.2.2.1 k h))
    · exact (w8.2.2.2 i hi).trans ((w7.2.2.2 i hi).trans (w5.2.2.2 i hi))
    · have e2' := fun K => e2 (d + 10) K
      rw [← j3] at e2'
      have e3' := fun K => e3 (d + 10) K (by omega)
      have e5' := fun K => e5 (d + 6) K
      have e6' := fun K => e6 (d + 10) K (by omega)
      rw [nI_0] at e6'
      have e7' := fun K => e7 (d + 6) K
      have e8' := fun K => e8 (d + 6) K
      have kl3 : hk g3 l = 7 := L3.1.1.1
      have kl5 : hk g5 l = 7 := (s5.k (by omega)).trans L4.1.1.1
      have f5 : hF g5 l 4 = .ref aa := (s5.F (by omega) (nRW l (by omega))).trans L4.1.2.1.2.2.2.2
      have k8 : hk g5 aa = 8 := nd5.k.2
      simp only [i140_350, i140_351, i140_352, i140_355, i140_358, i140_359, i140_360, i140_361, i140_362, i140_365, i140_368, i140_371, i140_372, i140_373, i140_375, i140_378, i140_379, i140_380, i140_381, i140_384, i140_385, i140_388, i140_391, i140_392, i140_393, i140_395, nl_i, nl_r, nl_0, nl_j, nb0, nb1, nbI, orv_s, konN_v, konN_n, konN_e, true_and, and_true, and_self, if_true, if_false, ite_true, ite_false, isR_ref, true_or, or_true, isR_null, rg10, rg11, rg12, rg13, rg14, rg15, rg16, rh13, rh14, rh15, rh16, bI_T, bI_F, bI_Fb, i1z, Bool.false_eq_true, kr, e1', r1.1.1, e2', e3', kl3, ← hg4, e5', kl5, f5, k8, e6', st6.isR, e7', e8', isRL]
  · refine ⟨[], .null, [400, -5, -4], g1, S, A, by decide, x1, ?_, r1, L1, t1, Or.inl ⟨rfl, rfl, rfl⟩, ⟨s1.mo (fun i _ z => Or.inr (Or.inl z)), by omega, by omega⟩, WS.rf, fun d K => ?_⟩
    · rw [List.append_nil]; exact b1
    · have nz := nI_nz0 hk0 (by omega)
      simp only [i140_350, i140_351, i140_352, i140_355, nl_i, nl_r, nl_0, nl_j, nb0, nb1, nbI, orv_s, konN_v, konN_n, konN_e, true_and, and_true, and_self, if_true, if_false, ite_true, ite_false, isR_ref, true_or, or_true, isR_null, rg10, rg11, rg12, rg13, rg14, rg15, rg16, rh13, rh14, rh15, rh16, bI_T, bI_F, bI_Fb, i1z, Bool.false_eq_true, kr, e1', nz]
end TRE
