/-! RANDOM LINE: the zones -/
def dz5 : Z5 := (0, 0, 0, 0, 0)
/-- the line under way at l -/
def RLn (g : AH) (l n q1 q2 : Nat) (zs : List Z5) (tv : Value) : Prop :=
  ((hk g l = 7 ∧ l < hN g) ∧ (hF g l 0 = .int 0 ∧ hF g l 1 = .int (nI q1) ∧ hF g l 2 = .int (nI q2) ∧ hF g l 3 = .int 0 ∧ hF g l 4 = tv) ∧ (hF g l 6 = .ref (l + 27) ∧ hF g l 7 = .ref (l + 3) ∧ hF g l 8 = .ref (l + 4) ∧ hF g l 9 = .ref (l + 5)) ∧ l + 28 + 2 * zs.length ≤ hN g) ∧
  (∃ zr : Nat, hF g l 5 = .ref zr ∧ (hk g zr = 14 ∧ hl g zr = zs.length) ∧ (l < zr ∧ zr < hN g) ∧ (0 < zs.length → zr = l + 27 + 2 * zs.length) ∧ (¬ zr = l + 27) ∧ ∀ z, z < zs.length → hR g zr z = some (l + 28 + 2 * z)) ∧
  ((hk g (l + 27) = 10 ∧ hl g (l + 27) = n) ∧ (hk g (l + 3) = 15 ∧ hl g (l + 3) = 0) ∧ (hk g (l + 4) = 14 ∧ hl g (l + 4) = 20) ∧ (hk g (l + 5) = 14 ∧ hl g (l + 5) = 20)) ∧
  (∀ z, z < zs.length → hA g (l + 27) z = nI (zs.getD z dz5).1 ∧ RowI g (l + 28 + 2 * z) (zrow (zs.getD z dz5)))  ∧
  (∀ t, t < 20 → hR g (l + 5) t = some (l + 6 + t) ∧ (hk g (l + 6 + t) = 10 ∧ hl g (l + 6 + t) = 4) ∧ hA g (l + 6 + t) = fun _ => 0)
/-- what writing the text leaves of the class's part -/
def WS (S S' A A' : Nat → Nat → Int32) : Prop := (∀ i, ¬ i = 13 → S' i = S i) ∧ (∀ k, ¬ k = 1 → S' 13 k = S 13 k) ∧ ∀ i, ¬ i = 14 → A' i = A i
theorem WS.rf {S A : Nat → Nat → Int32} : WS S S A A := ⟨fun _ _ => rfl, fun _ _ => rfl, fun _ _ => rfl⟩
theorem WS.tr {S S1 S2 A A1 A2 : Nat → Nat → Int32} (x : WS S S1 A A1) (y : WS S1 S2 A1 A2) : WS S S2 A A2 := ⟨fun i hi => (y.1 i hi).trans (x.1 i hi), fun k h => (y.2.1 k h).trans (x.2.1 k h), fun i hi => (y.2.2 i hi).trans (x.2.2 i hi)⟩
/-- the cells that the random line writes: the buffer, the generator, the class's own, its own -/
def RW (u r l i : Nat) : Prop := i = u ∨ i = r ∨ own i = true ∨ l ≤ i
theorem BUF.keep {g g' : AH} {u : Nat} {S A : Nat → Nat → Int32} {b : List Nat} {W : Nat → Prop} (x : BUF g u S A b) (hs : Sm W g g') (hu : u < hN g) (hw : ¬ W u) : BUF g' u S A b := by
  obtain ⟨⟨⟨x1, x2⟩, x3, x4⟩, x5⟩ := x
  refine ⟨⟨⟨(hs.k hu).trans x1, (hs.l hu).trans x2⟩, ?_, ?_⟩, x5⟩
  · rw [hs.A hu hw]; exact x3
  · rw [hs.A hu hw]; exact x4
theorem litZo {g : AH} : StrR g (fun _ => False) (litV 8) (32 :: wrd 1) := lit_str (by decide) (by decide) (by decide) (by decide) (by decide)
section ZON
variable {d u r n l q1 q2 : Nat} {g : AH} {T : Nat → Bool} {U S A : Nat → Nat → Int32} {J : Nat → Nat → Int64} {G : Nat → Nat} {K : AO → AH → Prop} {b : List Nat} {tv : Value} {zs : List Z5} {l6 l7 l8 : Option Value}
theorem zrow_lt {v : Z5} (h : zoK v) : ∀ j, j < (zrow v).length → (zrow v).getD j 0 < 1000 := by
  obtain ⟨a1, a2, a3, a4, a5⟩ := h
  intro j hj
  have hj : j < 5 := hj
  match j, hj with
  | 0, _ => show v.1 < 1000; omega
  | 1, _ => show v.2.1 < 1000; omega
  | 2, _ => show v.2.2.1 < 1000; omega
  | 3, _ => show v.2.2.2.1 < 1000; omega
  | 4, _ => show v.2.2.2.2 < 1000; omega
theorem row5_at {v : Z5} : ∀ j, j < (zrow v).length → row5 v j = nI ((zrow v).getD j 0) := by
  intro j hj
  have hj : j < 5 := hj
  match j, hj with
  | 0, _ => rfl
  | 1, _ => rfl
  | 2, _ => rfl
  | 3, _ => rfl
  | 4, _ => rfl
theorem getD_ap {α : Type} {l : List α} {v w : α} {k : Nat} : (k < l.length → (l ++ [v]).getD k w = l.getD k w) ∧ (l ++ [v]).getD l.length w = v := by
  refine ⟨fun h => ?_, ?_⟩
  · rw [List.getD_eq_getElem?_getD, List.getD_eq_getElem?_getD, List.getElem?_append_left h]
  · rw [List.getD_eq_getElem?_getD, List.getElem?_append_right (Nat.le_refl _), Nat.sub_self]
    rfl
theorem s_zstep (x : FX g T U S A J G) (hT : ∀ i, T i = true → i < l) (h140 : 140 ≤ l) (hu : ¬ CW T u ∧ u < l) (hr : ¬ CW T r ∧ r < l ∧ ¬ r = u) (hb : BUF g u S A b) (hrn : RN g r) (hL : RLn g l n q1 q2 zs tv) (nN : hN g = l + 28 + 2 * zs.length) (hn : 1 ≤ n ∧ n ≤ 4) (hz : zs.length < n) (hbl : b.length ≤ 500) : ∃ v g' S' A' x6 x7, zoK v ∧ FX g' T U S' A' J G ∧ BUF g' u S' A' (b ++ zoT v) ∧ RN g' r ∧ RLn g' l n q1 q2 (zs ++ [v]) tv ∧ hN g' = l + 28 + 2 * (zs.length + 1) ∧ hR g' (l + 4) = hR g (l + 4) ∧ (Sm (RW u r l) g g' ∧ hS g' ≤ hS g + 10) ∧ WS S S' A A' ∧ ∀ d K, Ev (d + 6) 140 73 [some (.ref 0), some (.ref u), some (.ref r), some (.ref l), some (.int (nI n)), some (.int (nI zs.length)), l6, l7, l8] [] g K = Ev (d + 6) 140 73 [some (.ref 0), some (.ref u), some (.ref r), some (.ref l), some (.int (nI n)), some (.int (nI (zs.length + 1))), some (.int x6), some (.int x7), some (.ref (l + 28 + 2 * zs.length))] [] g' K := by
  obtain ⟨⟨k9, rN⟩, sd, hsd⟩ := hrn
  obtain ⟨⟨⟨kl, lN⟩, ⟨f0, f1, f2, f3, f4⟩, ⟨f6, f7, f8, f9⟩, -⟩, ⟨zr, y1, ⟨y2, y3⟩, ⟨y4, y5⟩, y6, y6', y7⟩, ⟨⟨a1, a2⟩, ⟨a3, a4⟩, ⟨a5, a6⟩, ⟨a7, a8⟩⟩, hzr, htr⟩ := hL
  obtain ⟨v, s, x6, x7, hv, ev1⟩ := s_rz (l := l) (l0 := some (.ref 0)) (l1 := some (.ref u)) (l6 := l6) (l7 := l7) (l8 := l8) k9 rN hsd hn hz
  obtain ⟨m, hm⟩ : ∃ m, m = zs.length := ⟨_, rfl⟩
  rw [← hm] at nN y3 y6 y7 hzr hz ev1
  obtain ⟨g1, hg1⟩ : ∃ y, y = wF (wA (alA g 10 5) (hN g) (row5 v)) r 0 (.int s) := ⟨_, rfl⟩
  rw [← hg1] at ev1
  have n1 : hN g1 = hN g + 1 := by rw [hg1]; rfl
  have m1 : hS g1 = hS g + 5 := by rw [hg1]; rfl
  have s1 : Sm (fun i => i = r ∨ i = hN g) g g1 := by
    rw [hg1]
    exact (Sm.alA.tr (Sm.wA (W := fun i => i = r ∨ i = hN g) (Or.inr rfl))).tr (Sm.wF (W := fun i => i = r ∨ i = hN g) (Or.inl rfl))
  have rl : ¬ r = l := by omega
  have F1 : ∀ k, hF g1 l k = hF g l k := fun k => by
    rw [hg1, wF_ne (by omega)]
    rfl
  have kn1 : hk g1 (hN g) = 10 ∧ hl g1 (hN g) = 5 := by rw [hg1]; exact ⟨alA_k, alA_l⟩
  have an1 : hA g1 (hN g) = row5 v := by rw [hg1]; exact wA_eq
  have row1 : RowI g1 (hN g) (zrow v) := ⟨kn1, by omega, fun j hj => by rw [an1]; exact row5_at j hj⟩
  -- the rows
  have cj : ∀ j, j < m → hR g1 zr j = some (l + 28 + 2 * j) ∧ hk g1 (l + 28 + 2 * j) = 10 ∧ l + 28 + 2 * j < hN g1 := fun j hj => by
    refine ⟨?_, ?_, by omega⟩
    · rw [s1.R y5 (by omega)]; exact y7 j hj
    · rw [s1.k (by omega)]
      have := hzr j hj
      exact this.2.1.1
  obtain ⟨g2, ⟨s2, n2, m2⟩, ⟨w1, w2⟩, F2, ev2⟩ := s_with (g := g1) (x := zr) (y := hN g) (m := m) (c := fun j => l + 28 + 2 * j) (by omega) ⟨(s1.k y5).trans y2, (s1.l y5).trans y3⟩ (by omega) cj ⟨kn1.1, by omega⟩
  obtain ⟨g3, hg3⟩ : ∃ y, y = wF g2 l 5 (.ref (hN g1)) := ⟨_, rfl⟩
  have s3 : Sm (fun i => i = l) g2 g3 := by rw [hg3]; exact Sm.wF rfl
  have n3 : hN g3 = hN g + 2 := by
    have : hN g3 = hN g2 := by rw [hg3]; rfl
    omega
  have m3 : hS g3 = hS g2 := by rw [hg3]; rfl
  have F3 : ∀ k, ¬ k = 5 → hF g3 l k = hF g l k := fun k h => by rw [hg3, wF_nk h, F2, F1]
  obtain ⟨g4, hg4⟩ : ∃ y, y = wA g3 (l + 27) (upd (hA g3 (l + 27)) m (nI v.1)) := ⟨_, rfl⟩
  have s4 : Sm (fun i => i = l + 27) g3 g4 := by rw [hg4]; exact Sm.wA rfl
  have n4 : hN g4 = hN g + 2 := by
    have : hN g4 = hN g3 := by rw [hg4]; rfl
    omega
  have m4 : hS g4 = hS g3 := by rw [hg4]; rfl
  have F4 : ∀ i k, hF g4 i k = hF g3 i k := fun i k => by rw [hg4]; rfl
  have W4 : Sm (fun i => i = r ∨ i = hN g ∨ i = l ∨ i = l + 27) g g4 :=
    (((s1.mo (fun i _ z => by omega)).tr (s2.mo (fun i _ z => z.elim))).tr (s3.mo (fun i _ z => Or.inr (Or.inr (Or.inl z))))).tr (s4.mo (fun i _ z => Or.inr (Or.inr (Or.inr z))))
  have ho : ∀ i, CW T i → i < l := fun i hi => by
    rcases hi with hi | hi
    · have := own_lt hi; omega
    · exact hT i hi
  have x4 : FX g4 T U S A J G := x.law W4 (fun i hi z => by
    have := ho i hi
    rcases z with z | z | z | z
    · exact hr.1 (by rw [← z]; exact hi)
    · omega
    · omega
    · omega)
  have b4 : BUF g4 u S A b := hb.keep W4 (by omega) (by omega)
  have row4 : RowI g4 (hN g) (zrow v) := ((row1.keep s2 (fun z => z)).keep s3 (by omega)).keep s4 (by omega)
  have onN : own (hN g) = false := own_big (by omega)
  have hbz : b.length + (32 :: wrd 1).length + 4 * (zrow v).length ≤ 630 := by
    show b.length + 5 + 4 * 5 ≤ 630
    omega
  obtain ⟨g5, S5, A5, x5, b5, w5, e5⟩ := s_wns (kk := 8) (w := 32 :: wrd 1) (ns := zrow v) x4 ⟨hu.1, by omega⟩ b4 litZo (by omega) (zrow_lt hv) (by show 5 ≤ 100; omega) row4 (fun z => by
    rcases z with z | z
    · omega
    · rw [onN] at z; exact absurd z (by decide)) hbz
  have b5 : BUF g5 u S5 A5 (b ++ zoT v) := b5
  have W5 : Sm (RW u r l) g4 g5 := w5.1.1.mo (fun i _ z => by
    rcases z with z | z
    · exact Or.inl z
    · exact Or.inr (Or.inr (Or.inl z)))
  have n5 : hN g5 = hN g + 2 := by rw [w5.1.2.1, n4]
  have nRW : ∀ i, l ≤ i → ¬ (i = u ∨ own i = true) := fun i hi z => by
    rcases z with z | z
    · omega
    · have := own_lt z; omega
  have s5 := w5.1.1
  have k5 : ∀ i, i < hN g → hk g5 i = hk g i ∧ hl g5 i = hl g i := fun i hi => ⟨(s5.k (by omega)).trans (W4.k hi), (s5.l (by omega)).trans (W4.l hi)⟩
  have f5 : ∀ k, ¬ k = 5 → hF g5 l k = hF g l k := fun k h => by rw [s5.F (by omega) (nRW l (by omega)), F4, F3 k h]
  have lap : (zs ++ [v]).length = m + 1 := by rw [List.length_append, hm]; rfl
  have hgn : (zs ++ [v]).getD m dz5 = v := by rw [hm]; exact (getD_ap (k := 0)).2
  have hgo : ∀ z, z < m → (zs ++ [v]).getD z dz5 = zs.getD z dz5 := fun z h => getD_ap.1 (by omega)
  have bigA : ∀ i, l ≤ i → i < hN g → ¬ i = l → ¬ i = l + 27 → hA g5 i = hA g i ∧ hR g5 i = hR g i := fun i h1 h2 h3 h4 => by
    refine ⟨?_, ?_⟩
    · rw [s5.A (by omega) (nRW i h1), W4.A h2 (by omega)]
    · rw [s5.R (by omega) (nRW i h1), W4.R h2 (by omega)]
  refine ⟨v, g5, S5, A5, x6, x7, hv, x5, b5, ⟨⟨(k5 r rN).1.trans k9, by omega⟩, s, ?_⟩, ⟨⟨⟨(k5 l lN).1.trans kl, by omega⟩, ⟨(f5 0 (by omega)).trans f0, (f5 1 (by omega)).trans f1, (f5 2 (by omega)).trans f2, (f5 3 (by omega)).trans f3, (f5 4 (by omega)).trans f4⟩, ⟨(f5 6 (by omega)).trans f6, (f5 7 (by omega)).trans f7, (f5 8 (by omega)).trans f8, (f5 9 (by omega)).trans f9⟩, by rw [lap]; omega⟩, ⟨hN g1, ?_, ⟨?_, ?_⟩, ⟨by omega, by omega⟩, fun _ => by rw [lap]; omega, by omega, fun z hz' => ?_⟩, ⟨⟨(k5 _ (by omega)).1.trans a1, (k5 _ (by omega)).2.trans a2⟩, ⟨(k5 _ (by omega)).1.trans a3, (k5 _ (by omega)).2.trans a4⟩, ⟨(k5 _ (by omega)).1.trans a5, (k5 _ (by omega)).2.trans a6⟩, ⟨(k5 _ (by omega)).1.trans a7, (k5 _ (by omega)).2.trans a8⟩⟩, fun z hz' => ⟨?_, ?_⟩, fun t ht => ?_⟩, by omega, ?_, ⟨?_, ?_⟩, ⟨w5.2.1, w5.2.2.1, w5.2.2.2⟩, fun d K => ?_⟩
  · have oR : ¬ (r = u ∨ own r = true) := fun z => by
      rcases z with z | z
      · exact hr.2.2 z
      · exact hr.1 (Or.inl z)
    rw [s5.F (by omega) oR, F4, hg3, wF_ne (by omega), F2, hg1]
    exact wF_eq
  · rw [s5.F (by omega) (nRW l (by omega)), F4, hg3]
    exact wF_eq
  · rw [s5.k (by omega), s4.k (by omega), s3.k (by omega)]
    exact w1.1
  · rw [s5.l (by omega), s4.l (by omega), s3.l (by omega), lap]
    exact w1.2
  · rw [lap] at hz'
    rw [s5.R (by omega) (nRW _ (by omega)), s4.R (by omega) (by omega), s3.R (by omega) (by omega), w2 z hz']
    by_cases e : z = m
    · rw [if_pos e, e, nN]
    · rw [if_neg e]
  · rw [lap] at hz'
    rw [s5.A (by omega) (nRW _ (by omega)), hg4, wA_eq]
    by_cases e : z = m
    · rw [e, upd_e, hgn]
    · rw [upd_n e, hgo z (by omega), s3.A (by omega) (by omega), s2.A (by omega) (fun z => z), s1.A (by omega) (by omega)]
      exact (hzr z (by omega)).1
  · rw [lap] at hz'
    by_cases e : z = m
    · rw [e, hgn, ← nN]
      exact row4.keep s5 (nRW _ (by omega))
    · rw [hgo z (by omega)]
      exact ((hzr z (by omega)).2.keep W4 (by omega)).keep s5 (nRW _ (by omega))
  · obtain ⟨t1, ⟨t2, t3⟩, t4⟩ := htr t ht
    refine ⟨?_, ⟨(k5 _ (by omega)).1.trans t2, (k5 _ (by omega)).2.trans t3⟩, ?_⟩
    · rw [(bigA (l + 5) (by omega) (by omega) (by omega) (by omega)).2]; exact t1
    · rw [(bigA (l + 6 + t) (by omega) (by omega) (by omega) (by omega)).1]; exact t4
  · exact (bigA (l + 4) (by omega) (by omega) (by omega) (by omega)).2
  · exact (W4.mo (fun i _ z => by
      rcases z with z | z | z | z
      · exact Or.inr (Or.inl z)
      · exact Or.inr (Or.inr (Or.inr (by omega)))
      · exact Or.inr (Or.inr (Or.inr (by omega)))
      · exact Or.inr (Or.inr (Or.inr (by omega))))).tr W5
  · rw [w5.1.2.2, m4, m3, m2, m1]
    omega
  · have ev1' := fun K => ev1 (d + 5) K
    have e5' := fun K => e5 d K
    have ev2' := fun K => ev2 (d + 5) K
    have fl5 : hF g1 l 5 = .ref zr := (F1 5).trans y1
    have fl6 : hF g3 l 6 = .ref (l + 27) := (F3 6 (by omega)).trans f6
    have kl1 : hk g1 l = 7 := (s1.k (by omega)).trans kl
    have kl2 : hk g2 l = 7 := (s2.k (by omega)).trans kl1
    have kl3 : hk g3 l = 7 := (s3.k (by omega)).trans kl2
    have kh3 : hk g3 (l + 27) = 10 := (s3.k (by omega)).trans ((s2.k (by omega)).trans ((s1.k (by omega)).trans a1))
    have lh3 : hl g3 (l + 27) = n := (s3.l (by omega)).trans ((s2.l (by omega)).trans ((s1.l (by omega)).trans a2))
    have kr3 : hk g3 (hN g) = 10 := (s3.k (by omega)).trans ((s2.k (by omega)).trans kn1.1)
    have lr3 : hl g3 (hN g) = 5 := (s3.l (by omega)).trans ((s2.l (by omega)).trans kn1.2)
    have ar3 : hA g3 (hN g) 0 = nI v.1 := by
      rw [s3.A (by omega) (by omega), s2.A (by omega) (fun z => z), an1]
      rfl
    have i5 : inb (0 : Int32) 5 = True := eq_true (by decide)
    have inm : inb (nI m) n = True := inbT hz (by omega)
    have znm : zn (nI m) = m := zn_nI (by omega)
    rw [← hm, ← nN, ev1']
    simp only [i140_203, i140_204, i140_205, i140_208, i140_210, i140_213, i140_216, i140_217, i140_220, i140_222, i140_224, i140_225, i140_226, i140_227, i140_228, i140_229, i140_231, i140_233, i140_236, i140_239, nl_i, nl_r, nl_0, nl_j, nb0, nb1, nbI, orv_s, konN_v, konN_n, konN_e, true_and, and_true, and_self, if_true, if_false, ite_true, ite_false, isR_ref, true_or, or_true, isR_null, rg10, rg11, rg12, rg13, rg14, rg15, rg16, rh13, rh14, rh15, rh16, bI_T, bI_F, bI_Fb, i1z, Bool.false_eq_true, kl1, fl5, ev2', kl2, ← hg3, kl3, fl6, kr3, lr3, i5, zn_0, ar3, kh3, lh3, inm, znm, ← hg4, e5', nI_add, nI_1]
theorem nms_len : ∀ l : List Nat, (∀ j, j < l.length → l.getD j 0 < 1000) → (nmsT l).length ≤ 4 * l.length
  | [], _ => Nat.le_refl _
  | a :: l, h => by
    have i2 := nms_len l (fun j hj => h (j + 1) (by show j + 1 < l.length + 1; omega))
    have i3 := (dgs_ok (h 0 (by show 0 < l.length + 1; omega))).2.2
    have i3 : (dgs a).length ≤ 3 := i3
    show (32 :: (dgs a ++ nmsT l)).length ≤ 4 * (l.length + 1)
    rw [List.length_cons, List.length_append]
    omega
theorem zoT_len {v : Z5} (h : zoK v) : (zoT v).length ≤ 26 := by
  have e := nms_len (zrow v) (zrow_lt h)
  show (32 :: (wrd 1 ++ (nmsT (zrow v) ++ [59]))).length ≤ 26
  rw [List.length_cons, List.length_append, List.length_append]
  have e : (nmsT (zrow v)).length ≤ 4 * 5 := e
  show 4 + ((nmsT (zrow v)).length + 1) + 1 ≤ 26
  omega
theorem s_zones (hT : ∀ i, T i = true → i < l) (h140 : 140 ≤ l) (hn : 1 ≤ n ∧ n ≤ 4) (hr : ¬ CW T r ∧ r < l ∧ ¬ r = u) (hu : ¬ CW T u ∧ u < l) : ∀ {k : Nat} {g : AH} {S A : Nat → Nat → Int32} {b : List Nat} {zs : List Z5} {l6 l7 l8 : Option Value}, n = zs.length + k → FX g T U S A J G → BUF g u S A b → RN g r → RLn g l n q1 q2 zs tv → hN g = l + 28 + 2 * zs.length → b.length + 26 * k ≤ 400 → ∃ vs g' S' A' l6' l7' l8', (vs.length = k ∧ ∀ v, v ∈ vs → zoK v) ∧ FX g' T U S' A' J G ∧ BUF g' u S' A' (b ++ zosT vs) ∧ RN g' r ∧ RLn g' l n q1 q2 (zs ++ vs) tv ∧ hN g' = l + 28 + 2 * n ∧ hR g' (l + 4) = hR g (l + 4) ∧ (Sm (RW u r l) g g' ∧ hS g' ≤ hS g + 10 * k) ∧ WS S S' A A' ∧ ∀ d K, Ev (d + 6) 140 73 [some (.ref 0), some (.ref u), some (.ref r), some (.ref l), some (.int (nI n)), some (.int (nI zs.length)), l6, l7, l8] [] g K = Ev (d + 6) 140 242 [some (.ref 0), some (.ref u), some (.ref r), some (.ref l), some (.int (nI n)), some (.int (nI n)), l6', l7', l8'] [] g' K
  | 0, g, S, A, b, zs, l6, l7, l8, hk, x, hb, hrn, hL, nN, hbl => by
    have e : zs.length = n := by omega
    refine ⟨[], g, S, A, l6, l7, l8, ⟨rfl, fun v z => absurd z List.not_mem_nil⟩, x, ?_, hrn, ?_, by rw [nN, e], rfl, ⟨Sm.rf, by omega⟩, WS.rf, fun d K => ?_⟩
    · show BUF g u S A (b ++ [])
      rw [List.append_nil]; exact hb
    · rw [List.append_nil]; exact hL
    · have c : (nI n ≤ nI n) = True := eq_true (Int32.le_refl _)
      rw [e, i140_73]
      simp only [i140_75, i140_77, nl_i, nl_r, nl_0, nl_j, nb0, nb1, nbI, orv_s, konN_v, konN_n, konN_e, true_and, and_true, and_self, if_true, if_false, ite_true, ite_false, isR_ref, true_or, or_true, isR_null, rg10, rg11, rg12, rg13, rg14, rg15, rg16, rh13, rh14, rh15, rh16, bI_T, bI_F, bI_Fb, i1z, Bool.false_eq_true, c]
  | k + 1, g, S, A, b, zs, l6, l7, l8, hk, x, hb, hrn, hL, nN, hbl => by
    obtain ⟨v, g1, S1, A1, x6, x7, hv, x1, b1, r1, L1, n1, e1, ⟨s1, m1⟩, w1, ev1⟩ := s_zstep (l6 := l6) (l7 := l7) (l8 := l8) x hT h140 hu hr hb hrn hL nN hn (by omega) (by omega)
    have lap : (zs ++ [v]).length = zs.length + 1 := by rw [List.length_append]; rfl
    have zl := zoT_len hv
    obtain ⟨vs, g2, S2, A2, l6', l7', l8', ⟨c1, c2⟩, x2, b2, r2, L2, n2, e2, ⟨s2, m2⟩, w2, ev2⟩ := s_zones hT h140 hn hr hu (k := k) (zs := zs ++ [v]) (l6 := some (.int x6)) (l7 := some (.int x7)) (l8 := some (.ref (l + 28 + 2 * zs.length))) (by rw [lap]; omega) x1 b1 r1 L1 (by rw [lap]; exact n1) (by rw [List.length_append]; omega)
    refine ⟨v :: vs, g2, S2, A2, l6', l7', l8', ⟨by rw [List.length_cons, c1], fun w hw => ?_⟩, x2, ?_, r2, ?_, n2, e2.trans e1, ⟨s1.tr (s2.mo (fun i hi z => z)), by omega⟩, w1.tr w2, fun d K => ?_⟩
    · rcases List.mem_cons.mp hw with z | z
      · rw [z]; exact hv
      · exact c2 w z
    · show BUF g2 u S2 A2 (b ++ (zoT v ++ zosT vs))
      rw [← List.append_assoc]; exact b2
    · rw [List.append_cons]; exact L2
    · rw [lap] at ev2
      exact (ev1 d K).trans (ev2 d K)
end ZON
