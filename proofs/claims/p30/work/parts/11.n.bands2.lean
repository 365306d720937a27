/-! RANDOM LINE: the loop of the bands -/
theorem RLn.keep {g g' : AH} {l n q1 q2 : Nat} {zs : List Z5} {tv : Value} {W : Nat → Prop} (x : RLn g l n q1 q2 zs tv) (hs : Sm W g g') (hz : 0 < zs.length) (hw : ∀ i, l ≤ i → i < l + 28 + 2 * zs.length → W i → i = l + 4) : RLn g' l n q1 q2 zs tv := by
  obtain ⟨⟨⟨kl, lN⟩, ⟨f0, f1, f2, f3, f4⟩, ⟨f6, f7, f8, f9⟩, nN⟩, ⟨zr, y1, ⟨y2, y3⟩, ⟨y4, y5⟩, y6, y6', y7⟩, ⟨⟨a1, a2⟩, ⟨a3, a4⟩, ⟨a5, a6⟩, ⟨a7, a8⟩⟩, hzr, htr⟩ := x
  have nw : ∀ i, l ≤ i → i < l + 28 + 2 * zs.length → ¬ i = l + 4 → ¬ W i := fun i h1 h2 h3 z => h3 (hw i h1 h2 z)
  have F := fun k => hs.F (k := k) lN (nw l (by omega) (by omega) (by omega))
  have kk : ∀ i, i < l + 28 + 2 * zs.length → hk g' i = hk g i ∧ hl g' i = hl g i := fun i hi => ⟨hs.k (by omega), hs.l (by omega)⟩
  have y6 := y6 hz
  refine ⟨⟨⟨(hs.k lN).trans kl, Nat.lt_of_lt_of_le lN hs.1⟩, ⟨(F 0).trans f0, (F 1).trans f1, (F 2).trans f2, (F 3).trans f3, (F 4).trans f4⟩, ⟨(F 6).trans f6, (F 7).trans f7, (F 8).trans f8, (F 9).trans f9⟩, Nat.le_trans nN hs.1⟩, ⟨zr, (F 5).trans y1, ⟨(hs.k y5).trans y2, (hs.l y5).trans y3⟩, ⟨y4, Nat.lt_of_lt_of_le y5 hs.1⟩, fun _ => y6, y6', fun z h => ?_⟩, ⟨⟨(kk _ (by omega)).1.trans a1, (kk _ (by omega)).2.trans a2⟩, ⟨(kk _ (by omega)).1.trans a3, (kk _ (by omega)).2.trans a4⟩, ⟨(kk _ (by omega)).1.trans a5, (kk _ (by omega)).2.trans a6⟩, ⟨(kk _ (by omega)).1.trans a7, (kk _ (by omega)).2.trans a8⟩⟩, fun z h => ⟨?_, ?_⟩, fun t h => ?_⟩
  · rw [hs.R y5 (nw zr (by omega) (by omega) (by omega))]
    exact y7 z h
  · rw [hs.A (by omega) (nw (l + 27) (by omega) (by omega) (by omega))]
    exact (hzr z h).1
  · exact (hzr z h).2.keep hs (nw _ (by omega) (by omega) (by omega))
  · obtain ⟨t1, ⟨t2, t3⟩, t4⟩ := htr t h
    refine ⟨?_, ⟨(kk _ (by omega)).1.trans t2, (kk _ (by omega)).2.trans t3⟩, ?_⟩
    · rw [hs.R (by omega) (nw (l + 5) (by omega) (by omega) (by omega))]; exact t1
    · rw [hs.A (by omega) (nw (l + 6 + t) (by omega) (by omega) (by omega))]; exact t4
/-- the bands so far -/
def BTb (g : AH) (l M : Nat) (a : Nat → Nat → Int32) : Prop := ∀ t, t < 20 → BdR g (fun i => M ≤ i) (hR g (l + 4) t) (a 6 t) (a 7 t)
def brow (v : B3) : List Nat := [v.1, v.2.1, v.2.2]
theorem litBa {g : AH} : StrR g (fun _ => False) (litV 2) (wrd 2) := lit_str (by decide) (by decide) (by decide) (by decide) (by decide)
theorem brow_lt {v : B3} (h : bdK v) : ∀ j, j < (brow v).length → (brow v).getD j 0 < 1000 := by
  obtain ⟨a1, a2, a3⟩ := h
  intro j hj
  have hj : j < 3 := hj
  match j, hj with
  | 0, _ => show v.1 < 1000; omega
  | 1, _ => show v.2.1 < 1000; omega
  | 2, _ => show v.2.2 < 1000; omega
theorem row3_at {v : B3} : ∀ j, j < (brow v).length → row3 v j = nI ((brow v).getD j 0) := by
  intro j hj
  have hj : j < 3 := hj
  match j, hj with
  | 0, _ => rfl
  | 1, _ => rfl
  | 2, _ => rfl
theorem bdT_len {v : B3} (h : bdK v) : (bdT v).length ≤ 17 := by
  have e := nms_len (brow v) (brow_lt h)
  show (wrd 2 ++ (nmsT (brow v) ++ [59])).length ≤ 17
  rw [List.length_append, List.length_append]
  have e : (nmsT (brow v)).length ≤ 4 * 3 := e
  show 4 + ((nmsT (brow v)).length + 1) ≤ 17
  omega
section BNL
variable {d u r n l q1 q2 k : Nat} {g : AH} {T : Nat → Bool} {U S A : Nat → Nat → Int32} {J : Nat → Nat → Int64} {G : Nat → Nat} {K : AO → AH → Prop} {b : List Nat} {tv : Value} {zs : List Z5} {l6 l7 l8 : Option Value} {a : Nat → Nat → Int32}
theorem s_bstep (x : FX g T U S A J G) (hT : ∀ i, T i = true → i < l) (h140 : 140 ≤ l) (hu : ¬ CW T u ∧ u < l) (hr : ¬ CW T r ∧ r < l ∧ ¬ r = u) (hb : BUF g u S A b) (hrn : RN g r) (hL : RLn g l n q1 q2 zs tv) (hz : 0 < zs.length) (hbt : BTb g l (l + 28 + 2 * zs.length) a) (hk8 : k < 8) (hbl : b.length ≤ 500) : ∃ v g' S' A' x6 x7, bdK v ∧ FX g' T U S' A' J G ∧ BUF g' u S' A' (b ++ bdT v) ∧ RN g' r ∧ RLn g' l n q1 q2 zs tv ∧ BTb g' l (l + 28 + 2 * zs.length) (bW a v.1 (nI v.2.1) (nI v.2.2)) ∧ (Sm (RW u r l) g g' ∧ hN g' = hN g + 2 ∧ hS g' ≤ hS g + 5) ∧ WS S S' A A' ∧ ∀ d K, Ev (d + 6) 140 250 [some (.ref 0), some (.ref u), some (.ref r), some (.ref l), some (.int (nI n)), some (.int (nI (k + 1))), l6, l7, l8] [] g K = Ev (d + 6) 140 250 [some (.ref 0), some (.ref u), some (.ref r), some (.ref l), some (.int (nI n)), some (.int (nI k)), some (.int x6), some (.int x7), l8] [] g' K := by
  have hL0 := hL
  obtain ⟨⟨k9, rN⟩, sd, hsd⟩ := hrn
  obtain ⟨⟨⟨kl, lN⟩, -, ⟨-, -, f8, -⟩, nN⟩, -, ⟨-, -, ⟨a5, a6⟩, -⟩, -, -⟩ := hL
  obtain ⟨v, s, x6, x7, g1, hv, hg1, ev1⟩ := s_rb (n := n) (u := u) (l6 := l6) (l7 := l7) (l8 := l8) k9 hr.2.1 hsd kl f8 ⟨a5, a6⟩ (by omega) hk8
  obtain ⟨N, hN0⟩ : ∃ N, N = hN g := ⟨_, rfl⟩
  rw [← hN0] at hg1 ev1 nN lN rN
  obtain ⟨ga, hga⟩ : ∃ y, y = wA (alA g 10 2) N (row2 v) := ⟨_, rfl⟩
  obtain ⟨gb, hgb⟩ : ∃ y, y = wR ga (l + 4) (va_up (hR g (l + 4)) v.1 (some N)) := ⟨_, rfl⟩
  rw [← hga, ← hgb] at hg1
  have na : hN ga = N + 1 := by rw [hga, hN0]; rfl
  have nb : hN gb = N + 1 := by rw [hgb]; exact na
  have sa : Sm noW g ga := by
    have z : Sm (fun i => i = N) (alA g 10 2) ga := by rw [hga]; exact Sm.wA rfl
    have y := Sm.alA (W := noW) (g := g) (kd := 10) (n := 2)
    exact ((y.mo (V := fun i => i = N) (fun i _ z => z.elim)).tr z).mo (fun i hi z => by omega)
  have sb : Sm (fun i => i = l + 4) ga gb := by rw [hgb]; exact Sm.wR rfl
  have s1' : Sm (fun i => i = r ∨ i = N + 1) gb g1 := by
    rw [hg1]
    exact (Sm.alA.tr (Sm.wA (W := fun i => i = r ∨ i = N + 1) (Or.inr rfl))).tr (Sm.wF (W := fun i => i = r ∨ i = N + 1) (Or.inl rfl))
  have s1 : Sm (fun i => i = r) gb g1 := s1'.mo (fun i hi z => by omega)
  have n1 : hN g1 = N + 2 := by
    have : hN g1 = hN gb + 1 := by rw [hg1]; rfl
    omega
  have m1 : hS g1 = hS g + 5 := by
    rw [hg1, hgb, hga]
    rfl
  have row1 : RowI g1 (N + 1) (brow v) := by
    have k : hk g1 (N + 1) = 10 ∧ hl g1 (N + 1) = 3 := by rw [hg1, ← nb]; exact ⟨alA_k, alA_l⟩
    have a : hA g1 (N + 1) = row3 v := by rw [hg1]; exact wA_eq
    exact ⟨k, by omega, fun j hj => by rw [a]; exact row3_at j hj⟩
  have W1 : Sm (fun i => i = r ∨ i = l + 4) g g1 := ((sa.mo (fun i _ z => z.elim)).tr (sb.mo (fun i _ z => Or.inr z))).tr (s1.mo (fun i _ z => Or.inl z))
  have ho : ∀ i, CW T i → i < l := fun i hi => by
    rcases hi with hi | hi
    · have := own_lt hi; omega
    · exact hT i hi
  have x1 : FX g1 T U S A J G := x.law W1 (fun i hi z => by
    have := ho i hi
    rcases z with z | z
    · exact hr.1 (by rw [← z]; exact hi)
    · omega)
  have b1 : BUF g1 u S A b := hb.keep W1 (by omega) (by omega)
  have onN : own (N + 1) = false := own_big (by omega)
  obtain ⟨g5, S5, A5, x5, b5, w5, e5⟩ := s_wns (kk := 2) (w := wrd 2) (ns := brow v) x1 ⟨hu.1, by omega⟩ b1 litBa (by omega) (brow_lt hv) (by show 3 ≤ 100; omega) row1 (fun z => by
    rcases z with z | z
    · omega
    · rw [onN] at z; exact absurd z (by decide)) (by show b.length + 4 + 4 * 3 ≤ 630; omega)
  have b5 : BUF g5 u S5 A5 (b ++ bdT v) := b5
  have s5 := w5.1.1
  have nRW : ∀ i, l ≤ i → ¬ (i = u ∨ own i = true) := fun i hi z => by
    rcases z with z | z
    · omega
    · have := own_lt z; omega
  have W5 : Sm (fun i => i = r ∨ i = l + 4 ∨ i = u ∨ own i = true) g g5 := (W1.mo (fun i _ z => by
    rcases z with z | z
    · exact Or.inl z
    · exact Or.inr (Or.inl z))).tr (s5.mo (fun i _ z => Or.inr (Or.inr z)))
  have nW5 : ∀ i, l ≤ i → (i = r ∨ i = l + 4 ∨ i = u ∨ own i = true) → i = l + 4 := fun i hi z => by
    rcases z with z | z | z
    · omega
    · exact z
    · exact absurd z (nRW i hi)
  refine ⟨v, g5, S5, A5, x6, x7, hv, x5, b5, ⟨⟨(W5.k (by omega)).trans k9, by have := W5.1; omega⟩, s, ?_⟩, hL0.keep W5 hz (fun i h1 _ h3 => nW5 i h1 h3), fun t ht => ?_, ⟨W5.mo (fun i _ z => ?_), by rw [w5.1.2.1, n1]; omega, by rw [w5.1.2.2, m1]; omega⟩, ⟨w5.2.1, w5.2.2.1, w5.2.2.2⟩, fun d K => ?_⟩
  · have oR : ¬ (r = u ∨ own r = true) := fun z => by
      rcases z with z | z
      · exact hr.2.2 z
      · exact hr.1 (Or.inl z)
    rw [s5.F (by omega) oR, hg1]
    exact wF_eq
  · have e4 : hR g5 (l + 4) = va_up (hR g (l + 4)) v.1 (some N) := by
      rw [s5.R (by omega) (nRW _ (by omega)), s1.R (by omega) (by omega), hgb]
      exact wR_eq
    have b6 : bW a v.1 (nI v.2.1) (nI v.2.2) 6 = upd (a 6) v.1 (nI v.2.1) := by
      unfold bW
      rw [upf_ne _ _ (by omega), upf_same]
    have b7 : bW a v.1 (nI v.2.1) (nI v.2.2) 7 = upd (a 7) v.1 (nI v.2.2) := by
      unfold bW
      rw [upf_same]
    rw [e4, b6, b7]
    show BdR g5 _ (if t = v.1 then some N else hR g (l + 4) t) _ _
    by_cases e : t = v.1
    · rw [if_pos e, e, upd_e, upd_e]
      have ka : hk ga N = 10 ∧ hl ga N = 2 := by
        rw [hga, hN0]
        exact ⟨alA_k, alA_l⟩
      have aa : hA ga N = row2 v := by rw [hga]; exact wA_eq
      have kg : hk g5 N = 10 ∧ hl g5 N = 2 := ⟨(s5.k (by omega)).trans ((s1.k (by omega)).trans ((sb.k (by omega)).trans ka.1)), (s5.l (by omega)).trans ((s1.l (by omega)).trans ((sb.l (by omega)).trans ka.2))⟩
      have ag : hA g5 N = row2 v := by rw [s5.A (by omega) (nRW _ (by omega)), s1.A (by omega) (by omega), sb.A (by omega) (by omega)]; exact aa
      refine Or.inr ⟨N, rfl, ⟨by omega, by have := W5.1; have := w5.1.2.1; omega⟩, kg, ?_, ?_, nI_pos' ?_, nI_pos' ?_⟩
      · rw [ag]; rfl
      · rw [ag]; rfl
      · have := hv.2.1; omega
      · have := hv.2.2; omega
    · rw [if_neg e, upd_n e, upd_n e]
      exact (hbt t ht).keep W5 (fun i hi z => by
        have hi : l + 28 + 2 * zs.length ≤ i := hi
        have := nW5 i (by omega) z
        omega)
  · rcases z with z | z | z | z
    · exact Or.inr (Or.inl z)
    · exact Or.inr (Or.inr (Or.inr (by omega)))
    · exact Or.inl z
    · exact Or.inr (Or.inr (Or.inl z))
  · have ev1' := fun K => ev1 (d + 5) K
    have e5' := fun K => e5 d K
    have dec : nI (k + 1) + (-1 : Int32) = nI k := by
      have z : nI (k + 1) - 1 = nI k := nI_sub (b := 1) (by omega)
      rw [← z]
      exact (Int32.sub_eq_add_neg ..).symm
    rw [ev1']
    simp only [i140_341, i140_344, i140_347, nl_i, nl_r, nl_0, nl_j, nb0, nb1, nbI, orv_s, konN_v, konN_n, konN_e, true_and, and_true, and_self, if_true, if_false, ite_true, ite_false, isR_ref, true_or, or_true, isR_null, rg10, rg11, rg12, rg13, rg14, rg15, rg16, rh13, rh14, rh15, rh16, bI_T, bI_F, bI_Fb, i1z, Bool.false_eq_true, e5', dec]
end BNL
section BNM
variable {d u r n l q1 q2 : Nat} {T : Nat → Bool} {U : Nat → Nat → Int32} {J : Nat → Nat → Int64} {G : Nat → Nat} {tv : Value} {zs : List Z5}
theorem s_bands (hT : ∀ i, T i = true → i < l) (h140 : 140 ≤ l) (hr : ¬ CW T r ∧ r < l ∧ ¬ r = u) (hu : ¬ CW T u ∧ u < l) (hz : 0 < zs.length) : ∀ {k : Nat} {g : AH} {S A : Nat → Nat → Int32} {b : List Nat} {l6 l7 l8 : Option Value} {a : Nat → Nat → Int32}, k < 8 → FX g T U S A J G → BUF g u S A b → RN g r → RLn g l n q1 q2 zs tv → BTb g l (l + 28 + 2 * zs.length) a → b.length + 17 * k ≤ 500 → ∃ bs g' S' A' l6' l7' l8', (bs.length = k ∧ ∀ v, v ∈ bs → bdK v) ∧ FX g' T U S' A' J G ∧ BUF g' u S' A' (b ++ bdsT bs) ∧ RN g' r ∧ RLn g' l n q1 q2 zs tv ∧ BTb g' l (l + 28 + 2 * zs.length) (bAll bs a) ∧ (Sm (RW u r l) g g' ∧ hN g' ≤ hN g + 2 * k ∧ hS g' ≤ hS g + 5 * k) ∧ WS S S' A A' ∧ ∀ d K, Ev (d + 6) 140 250 [some (.ref 0), some (.ref u), some (.ref r), some (.ref l), some (.int (nI n)), some (.int (nI k)), l6, l7, l8] [] g K = Ev (d + 6) 140 350 [some (.ref 0), some (.ref u), some (.ref r), some (.ref l), some (.int (nI n)), some (.int 0), l6', l7', l8'] [] g' K
  | 0, g, S, A, b, l6, l7, l8, a, hk, x, hb, hrn, hL, hbt, hbl => by
    refine ⟨[], g, S, A, l6, l7, l8, ⟨rfl, fun v z => absurd z List.not_mem_nil⟩, x, ?_, hrn, hL, hbt, ⟨Sm.rf, by omega, by omega⟩, WS.rf, fun d K => ?_⟩
    · show BUF g u S A (b ++ [])
      rw [List.append_nil]; exact hb
    · have c : ((0 : Int32) ≤ 0) = True := eq_true (Int32.le_refl _)
      rw [nI_0, i140_250]
      simp only [i140_252, nl_i, nl_r, nl_0, nl_j, nb0, nb1, nbI, orv_s, konN_v, konN_n, konN_e, true_and, and_true, and_self, if_true, if_false, ite_true, ite_false, isR_ref, true_or, or_true, isR_null, rg10, rg11, rg12, rg13, rg14, rg15, rg16, rh13, rh14, rh15, rh16, bI_T, bI_F, bI_Fb, i1z, Bool.false_eq_true, c]
  | k + 1, g, S, A, b, l6, l7, l8, a, hk, x, hb, hrn, hL, hbt, hbl => by
    obtain ⟨v, g1, S1, A1, x6, x7, hv, x1, b1, r1, L1, bt1, ⟨s1, n1, m1⟩, w1, ev1⟩ := s_bstep (l6 := l6) (l7 := l7) (l8 := l8) (k := k) x hT h140 hu hr hb hrn hL hz hbt (by omega) (by omega)
    have zl := bdT_len hv
    obtain ⟨bs, g2, S2, A2, l6', l7', l8', ⟨c1, c2⟩, x2, b2, r2, L2, bt2, ⟨s2, n2, m2⟩, w2, ev2⟩ := s_bands hT h140 hr hu hz (k := k) (l6 := some (.int x6)) (l7 := some (.int x7)) (l8 := l8) (by omega) x1 b1 r1 L1 bt1 (by rw [List.length_append]; omega)
    refine ⟨v :: bs, g2, S2, A2, l6', l7', l8', ⟨by rw [List.length_cons, c1], fun w hw => ?_⟩, x2, ?_, r2, L2, bt2, ⟨s1.tr (s2.mo (fun i hi z => z)), by omega, by omega⟩, w1.tr w2, fun d K => (ev1 d K).trans (ev2 d K)⟩
    · rcases List.mem_cons.mp hw with z | z
      · rw [z]; exact hv
      · exact c2 w z
    · show BUF g2 u S2 A2 (b ++ (bdT v ++ bdsT bs))
      rw [← List.append_assoc]; exact b2
end BNM
