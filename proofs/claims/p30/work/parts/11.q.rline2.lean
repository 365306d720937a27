/-! RANDOM LINE: the whole -/
theorem litLi {g : AH} : StrR g (fun _ => False) (litV 0) (wrd 0) := lit_str (by decide) (by decide) (by decide) (by decide) (by decide)
section RLI
variable {d u r n l q1 q2 nx kp : Nat} {g : AH} {T : Nat → Bool} {U S A : Nat → Nat → Int32} {J : Nat → Nat → Int64} {G : Nat → Nat} {K : AO → AH → Prop} {b : List Nat} {zs : List Z5} {l6 l7 l8 : Option Value} {a : Nat → Nat → Int32}
theorem hd_lt (h1 : q1 < 1000) (h2 : q2 < 1000) : ∀ j, j < [q1, q2].length → [q1, q2].getD j 0 < 1000 := by
  intro j hj
  have hj : j < 2 := hj
  match j, hj with
  | 0, _ => exact h1
  | 1, _ => exact h2
theorem hdT_len (h1 : q1 < 1000) (h2 : q2 < 1000) : (hdT q1 q2).length ≤ 13 := by
  have e := nms_len [q1, q2] (hd_lt h1 h2)
  show (wrd 0 ++ (nmsT [q1, q2] ++ [59])).length ≤ 13
  rw [List.length_append, List.length_append]
  have e : (nmsT [q1, q2]).length ≤ 4 * 2 := e
  show 4 + ((nmsT [q1, q2]).length + 1) ≤ 13
  omega
/-- the head of the line, its object, its heats -/
theorem s_rhead (x : FX g T U S A J G) (hu : ¬ CW T u ∧ u < hN g) (hr : ¬ CW T r ∧ r < hN g ∧ ¬ r = u) (hb : BUF g u S A []) (hrn : RN g r) (hlN : l = hN g) : ∃ n q1 q2 g' S' A', (1 ≤ n ∧ n ≤ 4) ∧ (1 ≤ q1 ∧ q1 ≤ 3) ∧ q2 ≤ 20 ∧ FX g' T U S' A' J G ∧ BUF g' u S' A' (hdT q1 q2) ∧ RN g' r ∧ RLn g' l n q1 q2 [] .null ∧ hN g' = l + 28 ∧ (hR g' (l + 4) = fun _ => none) ∧ (Sm (RW u r l) g g' ∧ hS g' ≤ hS g + 200) ∧ WS S S' A A' ∧ ∀ d K, EvM (d + 6) 140 [.ref 0, .ref u, .ref r] g K = Ev (d + 6) 140 73 [some (.ref 0), some (.ref u), some (.ref r), some (.ref l), some (.int (nI n)), some (.int 0), none, none, none] [] g' K := by
  have h140 := x.2.2
  have hT : ∀ i, T i = true → i < l := fun i hi => by rw [hlN]; exact x.2.1 i hi
  have ho : ∀ i, CW T i → i < l := fun i hi => by
    rcases hi with hi | hi
    · have := own_lt hi; omega
    · exact hT i hi
  have nRW : ∀ i, l ≤ i → ¬ (i = u ∨ own i = true) := fun i hi z => by
    rcases z with z | z
    · omega
    · have := own_lt z; omega
  have oR : ¬ (r = u ∨ own r = true) := fun z => by
    rcases z with z | z
    · exact hr.2.2 z
    · exact hr.1 (Or.inl z)
  obtain ⟨g1, hg1⟩ : ∃ y, y = alO g 7 10 (dfl 6) := ⟨_, rfl⟩
  have s1 : Sm noW g g1 := by rw [hg1]; exact Sm.alO
  have n1 : hN g1 = l + 1 := by rw [hg1, hlN]; rfl
  have m1 : hS g1 = hS g + 10 := by rw [hg1]; rfl
  have k1 : hk g1 l = 7 := by rw [hg1, hlN]; exact alO_k
  have f1 : ∀ k, hF g1 l k = dfl 6 k := fun k => by rw [hg1, hlN]; exact alO_F
  obtain ⟨g2, ⟨s2, n2, m2⟩, ⟨i0, i5, i6, i7, i8, i9⟩, ⟨j0, j1, j2, ⟨j3, j3'⟩, j4, j5⟩, e2⟩ := s_linit k1 (by omega)
  rw [n1] at n2 i5 i6 i7 i8 i9 j0 j1 j2 j3 j3' j4 j5
  have k2 : hk g2 l = 7 := (s2.k (by omega)).trans k1
  have s12 : Sm (fun i => l ≤ i) g g2 := (s1.mo (fun _ _ z => z.elim)).tr (s2.mo (fun i _ z => by omega))
  have r2 : RN g2 r := hrn.keep s12 (by omega)
  obtain ⟨c1, g3, c1l, ⟨s3, n3, m3⟩, r3, e3⟩ := s_below (m := 3) r2 (by omega) (by omega)
  obtain ⟨g4, hg4⟩ : ∃ y, y = wF g3 l 1 (.int (nI (1 + c1))) := ⟨_, rfl⟩
  have s4 : Sm (fun i => i = l) g3 g4 := by rw [hg4]; exact Sm.wF rfl
  have n4 : hN g4 = hN g3 := by rw [hg4]; rfl
  have m4 : hS g4 = hS g3 := by rw [hg4]; rfl
  have r4 : RN g4 r := r3.keep s4 (by omega)
  obtain ⟨c2, g5, c2l, ⟨s5, n5, m5⟩, r5, e5⟩ := s_below (m := 21) r4 (by omega) (by omega)
  obtain ⟨g6, hg6⟩ : ∃ y, y = wF g5 l 2 (.int (nI c2)) := ⟨_, rfl⟩
  have s6 : Sm (fun i => i = l) g5 g6 := by rw [hg6]; exact Sm.wF rfl
  have n6 : hN g6 = l + 26 := by
    have : hN g6 = hN g5 := by rw [hg6]; rfl
    omega
  have m6 : hS g6 = hS g5 := by rw [hg6]; rfl
  obtain ⟨g7, hg7⟩ : ∃ y, y = wA (alA g6 10 2) (l + 26) (upd (upd (fun _ => 0) 0 (nI (1 + c1))) 1 (nI c2)) := ⟨_, rfl⟩
  have s7' : Sm (fun i => i = l + 26) g6 g7 := by rw [hg7]; exact Sm.alA.tr (Sm.wA rfl)
  have s7 : Sm noW g6 g7 := s7'.mo (fun i hi z => by omega)
  have n7 : hN g7 = l + 27 := by
    have : hN g7 = hN g6 + 1 := by rw [hg7]; rfl
    omega
  have m7 : hS g7 = hS g6 + 2 := by rw [hg7]; rfl
  have s27 : Sm (fun i => i = r ∨ i = l) g2 g7 := ((((s3.mo (fun i _ z => Or.inl z)).tr (s4.mo (fun i _ z => Or.inr z))).tr (s5.mo (fun i _ z => Or.inl z))).tr (s6.mo (fun i _ z => Or.inr z))).tr (s7.mo (fun _ _ z => z.elim))
  have W7 : Sm (fun i => i = r ∨ l ≤ i) g g7 := (s12.mo (fun i _ z => Or.inr z)).tr (s27.mo (fun i _ z => by omega))
  have x7 : FX g7 T U S A J G := x.law W7 (fun i hi z => by
    rcases z with z | z
    · exact hr.1 (by rw [← z]; exact hi)
    · have := ho i hi; omega)
  have b7 : BUF g7 u S A [] := hb.keep W7 hu.2 (by omega)
  have row7 : RowI g7 (l + 26) [1 + c1, c2] := by
    have k : hk g7 (l + 26) = 10 ∧ hl g7 (l + 26) = 2 := by rw [hg7, ← n6]; exact ⟨alA_k, alA_l⟩
    have aa : hA g7 (l + 26) = upd (upd (fun _ => 0) 0 (nI (1 + c1))) 1 (nI c2) := by rw [hg7]; exact wA_eq
    refine ⟨k, by omega, fun j hj => ?_⟩
    have hj : j < 2 := hj
    rw [aa]
    match j, hj with
    | 0, _ => rfl
    | 1, _ => rfl
  obtain ⟨g8, S8, A8, x8, b8, w8, e8⟩ := s_wns (kk := 0) (w := wrd 0) (ns := [1 + c1, c2]) x7 ⟨hu.1, by omega⟩ b7 litLi (by omega) (hd_lt (by omega) (by omega)) (by show 2 ≤ 100; omega) row7 (nRW _ (by omega)) (by show 0 + 4 + 4 * 2 ≤ 630; omega)
  have b8 : BUF g8 u S8 A8 (hdT (1 + c1) c2) := b8
  have s8 := w8.1.1
  have n8 := w8.1.2.1
  have m8 := w8.1.2.2
  have r8 : RN g8 r := (((r5.keep s6 (by omega)).keep s7 (fun z => z))).keep s8 oR
  obtain ⟨c3, g9, c3l, ⟨s9, n9, m9⟩, r9, e9⟩ := s_below (m := 4) r8 (by omega) (by omega)
  obtain ⟨gA, hgA⟩ : ∃ y, y = wF (alA g9 10 (1 + c3)) l 6 (.ref (l + 27)) := ⟨_, rfl⟩
  have sA : Sm (fun i => i = l) g9 gA := by rw [hgA]; exact Sm.alA.tr (Sm.wF rfl)
  have nA : hN gA = l + 28 := by
    have : hN gA = hN g9 + 1 := by rw [hgA]; rfl
    omega
  have mA : hS gA = hS g9 + (1 + c3) := by rw [hgA]; rfl
  have s8A : Sm (fun i => i = r ∨ i = l) g8 gA := (s9.mo (fun i _ z => Or.inl z)).tr (sA.mo (fun i _ z => Or.inr z))
  have s2A : Sm (fun i => i = r ∨ i = l ∨ i = u ∨ own i = true) g2 gA := ((s27.mo (fun i _ z => by
    rcases z with z | z
    · exact Or.inl z
    · exact Or.inr (Or.inl z))).tr (s8.mo (fun i _ z => Or.inr (Or.inr z)))).tr (s8A.mo (fun i _ z => by
    rcases z with z | z
    · exact Or.inl z
    · exact Or.inr (Or.inl z)))
  have nW2 : ∀ i, l < i → ¬ (i = r ∨ i = l ∨ i = u ∨ own i = true) := fun i hi z => by
    rcases z with z | z | z
    · omega
    · omega
    · exact nRW i (by omega) z
  have xA : FX gA T U S8 A8 J G := x8.law s8A (fun i hi z => by
    rcases z with z | z
    · exact hr.1 (by rw [← z]; exact hi)
    · have := ho i hi; omega)
  have bA : BUF gA u S8 A8 (hdT (1 + c1) c2) := b8.keep s8A (by omega) (by omega)
  -- the fields of the line's object
  have F3 : ∀ k, hF g3 l k = hF g2 l k := fun k => s3.F (by omega) (by omega)
  have F4 : ∀ k, hF g4 l k = if k = 1 then .int (nI (1 + c1)) else hF g2 l k := fun k => by
    rw [hg4]
    by_cases e : k = 1
    · rw [if_pos e, e]; exact wF_eq
    · rw [if_neg e, wF_nk e]; exact F3 k
  have F6 : ∀ k, hF g6 l k = if k = 2 then .int (nI c2) else hF g4 l k := fun k => by
    rw [hg6]
    by_cases e : k = 2
    · rw [if_pos e, e]; exact wF_eq
    · rw [if_neg e, wF_nk e]; exact s5.F (by omega) (by omega)
  have F9 : ∀ k, hF g9 l k = hF g6 l k := fun k => by
    rw [s9.F (by omega) (by omega), s8.F (by omega) (nRW l (Nat.le_refl _)), s7.F (by omega) (fun z => z)]
  have FA : ∀ k, hF gA l k = if k = 6 then .ref (l + 27) else hF g9 l k := fun k => by
    rw [hgA]
    by_cases e : k = 6
    · rw [if_pos e, e]; exact wF_eq
    · rw [if_neg e, wF_nk e]; rfl
  have kA : ∀ i, i < hN g2 → hk gA i = hk g2 i ∧ hl gA i = hl g2 i := fun i hi => ⟨s2A.k hi, s2A.l hi⟩
  have d0 : dfl 6 0 = .int 0 := rfl
  have d3 : dfl 6 3 = .int 0 := rfl
  have d4 : dfl 6 4 = .null := rfl
  have heats : hk gA (l + 27) = 10 ∧ hl gA (l + 27) = 1 + c3 := by
    have e : hN g9 = l + 27 := by omega
    rw [hgA, ← e]
    exact ⟨alA_k, alA_l⟩
  refine ⟨1 + c3, 1 + c1, c2, gA, S8, A8, by omega, by omega, by omega, xA, bA, r9.keep sA (by omega), ⟨⟨⟨(kA l (by omega)).1.trans k2, by omega⟩, ⟨?_, ?_, ?_, ?_, ?_⟩, ⟨?_, ?_, ?_, ?_⟩, by show l + 28 + 0 ≤ hN gA; omega⟩, ⟨l + 1, ?_, ⟨(kA _ (by omega)).1.trans j0.1, (kA _ (by omega)).2.trans j0.2⟩, ⟨by omega, by omega⟩, fun z => absurd z (by decide), by omega, fun z h => absurd h (Nat.not_lt_zero _)⟩, ⟨heats, ⟨(kA _ (by omega)).1.trans j2.1, (kA _ (by omega)).2.trans j2.2⟩, ⟨(kA _ (by omega)).1.trans j3.1, (kA _ (by omega)).2.trans j3.2⟩, ⟨(kA _ (by omega)).1.trans j4.1, (kA _ (by omega)).2.trans j4.2⟩⟩, fun z h => absurd h (Nat.not_lt_zero _), fun t ht => ?_⟩, nA, ?_, ⟨?_, by omega⟩, ⟨w8.2.1, w8.2.2.1, w8.2.2.2⟩, fun d K => ?_⟩
  · rw [FA, if_neg (by omega), F9, F6, if_neg (by omega), F4, if_neg (by omega), i0 0 (by omega), f1]; exact d0
  · rw [FA, if_neg (by omega), F9, F6, if_neg (by omega), F4, if_pos rfl]
  · rw [FA, if_neg (by omega), F9, F6, if_pos rfl]
  · rw [FA, if_neg (by omega), F9, F6, if_neg (by omega), F4, if_neg (by omega), i0 3 (by omega), f1]; exact d3
  · rw [FA, if_neg (by omega), F9, F6, if_neg (by omega), F4, if_neg (by omega), i0 4 (by omega), f1]; exact d4
  · rw [FA, if_pos rfl]
  · rw [FA, if_neg (by omega), F9, F6, if_neg (by omega), F4, if_neg (by omega), i7]
  · rw [FA, if_neg (by omega), F9, F6, if_neg (by omega), F4, if_neg (by omega), i8]
  · rw [FA, if_neg (by omega), F9, F6, if_neg (by omega), F4, if_neg (by omega), i9]
  · rw [FA, if_neg (by omega), F9, F6, if_neg (by omega), F4, if_neg (by omega), i5]
  · obtain ⟨t1, ⟨t2, t3⟩, t4⟩ := j5 t ht
    have e1 : l + 1 + 5 + t = l + 6 + t := by omega
    rw [e1] at t1 t2 t3 t4
    refine ⟨?_, ⟨(kA _ (by omega)).1.trans t2, (kA _ (by omega)).2.trans t3⟩, ?_⟩
    · rw [s2A.R (by omega) (nW2 _ (by omega))]; exact t1
    · rw [s2A.A (by omega) (nW2 _ (by omega))]; exact t4
  · rw [s2A.R (by omega) (nW2 _ (by omega))]; exact j3'
  · refine (s12.mo (fun i _ z => Or.inr (Or.inr (Or.inr z)))).tr (s2A.mo (fun i _ z => ?_))
    rcases z with z | z | z | z
    · exact Or.inr (Or.inl z)
    · exact Or.inr (Or.inr (Or.inr (by omega)))
    · exact Or.inl z
    · exact Or.inr (Or.inr (Or.inl z))
  · have e2' := fun K => e2 (d + 4) K
    have e3' := fun K => e3 (d + 5) K
    have e5' := fun K => e5 (d + 5) K
    have e8' := fun K => e8 d K
    have e9' := fun K => e9 (d + 5) K
    have y3 : (3 : Int32) = nI 3 := rfl
    have y21 : (21 : Int32) = nI 21 := rfl
    have y4 : (4 : Int32) = nI 4 := rfl
    rw [← y3] at e3'
    rw [← y21] at e5'
    rw [← y4] at e9'
    have kl3 : hk g3 l = 7 := (s3.k (by omega)).trans k2
    have kl5 : hk g5 l = 7 := (s5.k (by omega)).trans ((s4.k (by omega)).trans kl3)
    have kl6 : hk g6 l = 7 := (s6.k (by omega)).trans kl5
    have kl9 : hk g9 l = 7 := (s9.k (by omega)).trans ((s8.k (by omega)).trans ((s7.k (by omega)).trans kl6))
    have kz6 : hk (alA g6 10 2) l = 7 := (k_alA' (by omega)).trans kl6
    have kz9 : hk (alA g9 10 (1 + c3)) l = 7 := (k_alA' (by omega)).trans kl9
    have q61 : hF g6 l 1 = .int (nI (1 + c1)) := by rw [F6, if_neg (by omega), F4, if_pos rfl]
    have q62 : hF g6 l 2 = .int (nI c2) := by rw [F6, if_pos rfl]
    have aK : hk (alA g6 10 2) (l + 26) = 10 := by rw [← n6]; exact alA_k
    have aL : hl (alA g6 10 2) (l + 26) = 2 := by rw [← n6]; exact alA_l
    have aA : hA (alA g6 10 2) (l + 26) = fun _ => 0 := by rw [← n6]; exact alA_A (kd := 10) (n := 2)
    have N6 : hN g6 = l + 26 := n6
    have N9 : hN g9 = l + 27 := by omega
    have a1 : ∀ c, (1 : Int32) + nI c = nI (1 + c) := fun c => nI_add 1 c
    have v2 : (¬ ((2 : Int32) < 0 ∨ 60000000 < 2)) = True := eq_true (by decide)
    have z2 : zn (2 : Int32) = 2 := rfl
    have i02 : inb (0 : Int32) 2 = True := eq_true (by decide)
    have i12 : inb (1 : Int32) 2 = True := eq_true (by decide)
    have vn := v0N (show 1 + c3 < 1000 by omega)
    have zn' : zn (nI (1 + c3)) = 1 + c3 := zn_nI (by omega)
    have g7f : wA (alA g6 10 2) (l + 26) (upd (upd (fun _ => 0) 0 (nI (1 + c1))) 1 (nI c2)) = g7 := hg7.symm
    have gAf : wF (alA g9 10 (1 + c3)) l 6 (.ref (l + 27)) = gA := hgA.symm
    have kr2 : hk g2 r = 9 := r2.1.1
    have kr4 : hk g4 r = 9 := r4.1.1
    have kr8 : hk g8 r = 9 := r8.1.1
    simp only [in140, i140_0, i140_3, i140_4, i140_7, i140_8, i140_9, i140_10, i140_11, i140_12, i140_15, i140_16, i140_19, i140_20, i140_21, i140_23, i140_26, i140_29, i140_30, i140_31, i140_33, i140_34, i140_36, i140_37, i140_38, i140_39, i140_42, i140_43, i140_44, i140_45, i140_46, i140_49, i140_50, i140_53, i140_54, i140_55, i140_56, i140_59, i140_60, i140_62, i140_63, i140_65, i140_67, i140_70, i140_71, nl_i, nl_r, nl_0, nl_j, nb0, nb1, nbI, orv_s, konN_v, konN_n, konN_e, true_and, and_true, and_self, if_true, if_false, ite_true, ite_false, isR_ref, true_or, or_true, isR_null, rg10, rg11, rg12, rg13, rg14, rg15, rg16, rh13, rh14, rh15, rh16, bI_T, bI_F, bI_Fb, i1z, Bool.false_eq_true, ← hlN, ← hg1, k1, e2', kr2, e3', a1, kl3, ← hg4, kr4, e5', kl5, ← hg6, N6, v2, z2, aK, aL, aA, i02, i12, zn_0, zn_1, kz6, F_alA', q61, q62, k_wA, l_wA, wA_eq, wA_wA, F_wA', g7f, e8', kr8, e9', vn, zn', N9, kz9, gAf]
end RLI
