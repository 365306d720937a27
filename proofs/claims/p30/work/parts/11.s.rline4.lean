/-! RANDOM LINE: the contract -/
section RLX
variable {d u r nx kp : Nat} {g : AH} {T : Nat → Bool} {U S A : Nat → Nat → Int32} {J : Nat → Nat → Int64} {G : Nat → Nat} {K : AO → AH → Prop}
theorem buf0 (h1 : hk g u = 10 ∧ hl g u = 8) (h2 : hA g u = fun _ => 0) (h3 : S 13 1 = 0) : BUF g u S A [] := by
  refine ⟨⟨h1, by rw [h2]; rfl, fun i hi => ?_⟩, h3, fun j hj => absurd hj (Nat.not_lt_zero _), fun p => by show 0 < 128; omega⟩
  rw [h2, wd_0 (Nat.zero_le _)]
  rfl
theorem s_rline (x : FX g T U S A J G) (hu : ¬ CW T u ∧ u < hN g) (hr : ¬ CW T r ∧ r < hN g ∧ ¬ r = u) (hb : BUF g u S A []) (hrn : RN g r) (hx : S 50 1 = nI nx) (hx8 : nx < 8) (hkp : S 50 2 = nI kp) (hk8 : kp ≤ 8) :
    ∃ (n ln s t : Nat) (T2 : Nat → Bool) (U2 S3 A3 : Nat → Nat → Int32) (G3 : Nat → Nat) (q pg : Nat → Int32) (sa : Nat → Nat → Int32) (tv : Value) (g' : AH) (B : Nat → Prop) (D : Nat → Nat → Nat),
      (1 ≤ n ∧ n ≤ 4) ∧ (FX g' T2 U2 S3 A3 J G3 ∧ RN g' r ∧ Sm (fun i => i = u ∨ i = r ∨ CW T i) g g' ∧ hN g' ≤ hN g + 65000 ∧ hS g' ≤ hS g + 66000) ∧
      (SUp g' T2 s t q sa ln pg ∧ (hN g ≤ s ∧ s + 8 ≤ t ∧ t + 3 ≤ hN g')) ∧
      (LLn g' B (hN g) D n 0 q sa tv pg ln (S3 28) (fun j => A3 (28 + j)) (fun _ => 0) ∧ (∀ i, Ad (hN g) D n 0 i → hN g ≤ i ∧ i < s) ∧ (∀ i, B i → hN g ≤ i ∧ i < s) ∧ ∀ i, i < s → T2 i = T i) ∧
      (G3 28 = s ∧ S3 50 1 = nI ((nx + 1) % 8) ∧ S3 50 2 = nI (min (kp + 1) 8) ∧ S3 13 1 = 0 ∧ S3 28 1 = 0) ∧
      ∀ d K, EvM (d + 20) 140 [.ref 0, .ref u, .ref r] g K = K (.inl (some (.ref (hN g)))) g' := by
  obtain ⟨l, hlN⟩ : ∃ l, l = hN g := ⟨_, rfl⟩
  have h140 : 140 ≤ l := by rw [hlN]; exact x.2.2
  have hT : ∀ i, T i = true → i < l := fun i hi => by rw [hlN]; exact x.2.1 i hi
  obtain ⟨n, q1, q2, g1, S1, A1, hn, hq1, hq2, x1, b1, r1, L1, n1, e1, ⟨s1, m1⟩, w1, ev1⟩ := s_rhead x hu hr hb hrn hlN
  have hu' : ¬ CW T u ∧ u < l := ⟨hu.1, by rw [hlN]; exact hu.2⟩
  have hr' : ¬ CW T r ∧ r < l ∧ ¬ r = u := ⟨hr.1, by rw [hlN]; exact hr.2.1, hr.2.2⟩
  have hd := hdT_len (q1 := q1) (q2 := q2) (by omega) (by omega)
  obtain ⟨zs, g2, S2, A2, l6, l7, l8, ⟨zl, zk⟩, x2, b2, r2, L2, n2, e2, ⟨s2, m2⟩, w2, ev2⟩ := s_zones (l6 := none) (l7 := none) (l8 := none) hT h140 hn hr' hu' (k := n) (zs := []) (by show n = 0 + n; omega) x1 b1 r1 L1 n1 (by omega)
  have L2 : RLn g2 l n q1 q2 zs .null := L2
  have zpos : 0 < zs.length := by omega
  have zT : zosT zs ≠ [] ∧ (zosT zs).length ≤ 26 * zs.length ∧ 6 ≤ (zosT zs).length := by
    have gen : ∀ vs : List Z5, (∀ v, v ∈ vs → zoK v) → (zosT vs).length ≤ 26 * vs.length := fun vs => by
      induction vs with
      | nil => intro _; exact Nat.le_refl _
      | cons v vs ih =>
        intro h
        have a1 := ih (fun w hw => h w (List.mem_cons_of_mem _ hw))
        have a2 := zoT_len (h v List.mem_cons_self)
        show (zoT v ++ zosT vs).length ≤ 26 * (vs.length + 1)
        rw [List.length_append]
        omega
    have six : 6 ≤ (zosT zs).length := by
      match zs, zpos with
      | v :: vs, _ =>
        show 6 ≤ ((32 :: (wrd 1 ++ (nmsT [v.1, v.2.1, v.2.2.1, v.2.2.2.1, v.2.2.2.2] ++ [59]))) ++ zosT vs).length
        rw [List.length_append, List.length_cons, List.length_append, List.length_append]
        show 6 ≤ 4 + (_ + 1) + 1 + _
        omega
    exact ⟨fun z => by rw [z] at six; exact absurd six (by decide), gen zs zk, six⟩
  -- the bands
  obtain ⟨k, g3, kl, ⟨s3, n3, m3⟩, r3, ev3⟩ := s_below (m := 8) r2 (by omega) (by omega)
  have ho : ∀ i, CW T i → i < l := fun i hi => by
    rcases hi with hi | hi
    · have := own_lt hi; omega
    · exact hT i hi
  have q1' := s1.1
  have q2' := s2.1
  have x3 : FX g3 T U S2 A2 J G := x2.law s3 (fun i hi z => hr.1 (by rw [← z]; exact hi))
  have b3 := b2.keep s3 (by omega) (fun z => hr.2.2 z.symm)
  have L3 : RLn g3 l n q1 q2 zs .null := L2.keep s3 zpos (fun i h1 _ h3 => by omega)
  have hR3 : hR g3 (l + 4) = fun _ => none := by rw [s3.R (by omega) (by omega), e2, e1]
  have t3 : BTb g3 l (l + 28 + 2 * zs.length) (zAll zs 0 a0) := fun t ht => by
    rw [hR3, (zAll_at zs 0 a0).2.2 6 (by omega), (zAll_at zs 0 a0).2.2 7 (by omega)]
    exact Or.inl ⟨rfl, m1_at t ht, m1_at t ht⟩
  obtain ⟨bs, g4, S4, A4, l6', l7', l8', ⟨bl, bk⟩, x4, b4, r4, L4, t4, ⟨s4, n4, m4⟩, w4, ev4⟩ := s_bands (l6 := l6) (l7 := l7) (l8 := l8) hT h140 hr' hu' zpos kl x3 b3 r3 L3 t3 (by rw [List.length_append]; omega)
  have bT : (bdsT bs).length ≤ 17 * bs.length := by
    have gen : ∀ vs : List B3, (∀ v, v ∈ vs → bdK v) → (bdsT vs).length ≤ 17 * vs.length := fun vs => by
      induction vs with
      | nil => intro _; exact Nat.le_refl _
      | cons v vs ih =>
        intro h
        have a1 := ih (fun w hw => h w (List.mem_cons_of_mem _ hw))
        have a2 := bdT_len (h v List.mem_cons_self)
        show (bdT v ++ bdsT vs).length ≤ 17 * (vs.length + 1)
        rw [List.length_append]
        omega
    exact gen bs bk
  -- the tree
  obtain ⟨ht, tv, L, g5, S5, A5, htl, x5, b5, r5, L5, t5, hk5, ⟨s5, n5, m5⟩, w5, ev5⟩ := s_tree (l6 := l6') (l7 := l7') (l8 := l8') x4 hT h140 hu' hr' b4 r4 L4 zpos t4 (by rw [List.length_append, List.length_append]; omega)
  have q4' := s4.1
  have q5' := s5.1
  have WA := (w1.tr w2).tr (w4.tr w5)
  have eb : hdT q1 q2 ++ zosT zs ++ bdsT bs ++ ht = txT q1 q2 zs bs ht := by
    unfold txT
    rw [List.append_assoc, List.append_assoc]
  obtain ⟨M, eM⟩ : ∃ M, M = l + 28 + 2 * zs.length := ⟨_, rfl⟩
  have blen : (hdT q1 q2 ++ zosT zs ++ bdsT bs ++ ht).length = (hdT q1 q2).length + (zosT zs).length + (bdsT bs).length + ht.length := by rw [List.length_append, List.length_append, List.length_append]
  have hd5 : 5 ≤ (hdT q1 q2).length := by
    show 5 ≤ (wrd 0 ++ (nmsT [q1, q2] ++ [59])).length
    rw [List.length_append, List.length_append]
    show 5 ≤ 4 + (_ + 1)
    omega
  have nRW : ∀ i, l ≤ i → ¬ (i = u ∨ own i = true) := fun i hi z => by
    rcases z with z | z
    · omega
    · have := own_lt z; omega
  have hM5 := L5.1.2.2.2
  obtain ⟨T2, U2, S6, A6, G6, t, q, pg, g6, ⟨c1, c2, c3, c4, c5⟩, ⟨c6, c7, c8, c9⟩, ⟨d1, d2, d3, d4, d5, d6⟩, ev6⟩ := s_loadText (q1 := q1) (q2 := q2) (zs := zs) (bs := bs) (ht := ht) (nx := nx) (kp := kp) x5 ⟨hu.1, by omega⟩ b5 ⟨by rw [blen]; omega, by rw [blen]; omega⟩ eb (by rw [WA.1 50 (by omega)]; exact hx) hx8 (by rw [WA.1 50 (by omega)]; exact hkp) hk8 (by omega) hq2 (by omega) zk bk hk5 (fun i hi => nRW i (by omega))
  have eS : S5 28 = S 28 := WA.1 28 (by omega)
  have s6 : Sm (fun i => i < l) g5 g6 := c2.mo (fun i _ z => by
    rcases z with z | z
    · omega
    · exact ho i z)
  have q6' := s6.1
  have L6 : RLn g6 l n q1 q2 zs tv := L5.keep s6 zpos (fun i h1 _ h3 => by have h3 : i < l := h3; omega)
  have t6 : BTb g6 l (l + 28 + 2 * zs.length) (bAll bs (zAll zs 0 a0)) := t5.keep s6 ⟨by omega, fun z => by have z : l + 4 < l := z; omega⟩ (fun i hi z => by have z : i < l := z; omega)
  -- the bands' rows are the line's own
  have t6' : BTb g6 l (l + 28 + 2 * zs.length) (bAll bs (zAll zs 0 a0)) ∧ ∀ t, t < 20 → BdR g6 (fun i => l + 28 + 2 * zs.length ≤ i ∧ i < hN g5) (hR g6 (l + 4) t) (bAll bs (zAll zs 0 a0) 6 t) (bAll bs (zAll zs 0 a0) 7 t) := by
    refine ⟨t6, fun t ht => ?_⟩
    have y := t5 t ht
    have y2 : BdR g5 (fun i => l + 28 + 2 * zs.length ≤ i ∧ i < hN g5) (hR g5 (l + 4) t) (bAll bs (zAll zs 0 a0) 6 t) (bAll bs (zAll zs 0 a0) 7 t) := by
      rcases y with y | ⟨b, h1, ⟨h2, h3⟩, h4⟩
      · exact Or.inl y
      · exact Or.inr ⟨b, h1, ⟨⟨h2, h3⟩, h3⟩, h4⟩
    rw [s6.R (by omega) (fun z => by have z : l + 4 < l := z; omega)]
    exact y2.keep s6 (fun i hi z => by have z : i < l := z; omega)
  have hk6 : HtK g6 (fun i => l + 28 + 2 * zs.length ≤ i ∧ i < hN g5) ht tv L := by
    rcases hk5 with h | ⟨aa, tx, V, h1, h2, h3⟩
    · exact Or.inl h
    · exact Or.inr ⟨aa, tx, V, h1, h2, h3.keep s6 (fun i hi z => by have z : i < l := z; omega)⟩
  have hLL := rl_new (S := S5) (A := A5) (f := S6 28) (a := fun j => A6 (28 + j)) (g := g6) (B := fun i => l + 28 + 2 * zs.length ≤ i ∧ i < hN g5) L6 ⟨by omega, hn⟩ (by omega) hq2 zk t6'.2 (fun i hi => hi.1) hk6 c8 c9 d1 d2
  have W16 : Sm (fun i => i = u ∨ i = r ∨ CW T i) g g5 := by
    have z : Sm (RW u r l) g g5 := (((s1.tr (s2.mo (fun _ _ z => z))).tr (s3.mo (fun i _ z => Or.inr (Or.inl z)))).tr (s4.mo (fun _ _ z => z))).tr (s5.mo (fun _ _ z => z))
    exact z.mo (fun i hi z => by
      rcases z with z | z | z | z
      · exact Or.inl z
      · exact Or.inr (Or.inl z)
      · exact Or.inr (Or.inr (Or.inl z))
      · omega)
  have rr : ¬ (r = u ∨ CW T r) := fun z => by
    rcases z with z | z
    · exact hr.2.2 z
    · exact hr.1 z
  rw [← hlN]
  refine ⟨n, L.length, hN g5, t, T2, U2, S6, A6, G6, q, pg, bAll bs (zAll zs 0 a0), tv, g6, fun i => l + 28 + 2 * zs.length ≤ i ∧ i < hN g5, DRL l n, hn, ⟨c1, r5.keep c2 rr, W16.tr (c2.mo (fun i _ z => ?_)), by omega, by omega⟩, ⟨c6, by omega, c7.1, c7.2⟩, ⟨hLL, fun i hi => ?_, fun i hi => ?_, c5⟩, ⟨d3, d4, d5, d6, by rw [d1]; exact st_f.1⟩, fun d K => ?_⟩
  · rcases z with z | z
    · exact Or.inl z
    · exact Or.inr (Or.inr z)
  · have := DRL_ad hi; omega
  · omega
  · have ev1' := fun K => ev1 (d + 14) K
    have ev2' := fun K => ev2 (d + 14) K
    have ev3' := fun K => ev3 (d + 19) K
    have ev4' := fun K => ev4 (d + 14) K
    have ev5' := fun K => ev5 (d + 9) K
    have ev6' := fun K => ev6 d K
    have y8 : (8 : Int32) = nI 8 := rfl
    rw [← y8] at ev3'
    have kr2 : hk g2 r = 9 := r2.1.1
    rw [ev1']
    have ev2'' : ∀ K, Ev (d + 14 + 6) 140 73 [some (.ref 0), some (.ref u), some (.ref r), some (.ref l), some (.int (nI n)), some (.int 0), none, none, none] [] g1 K = Ev (d + 14 + 6) 140 242 [some (.ref 0), some (.ref u), some (.ref r), some (.ref l), some (.int (nI n)), some (.int (nI n)), l6, l7, l8] [] g2 K := ev2'
    rw [ev2'']
    simp only [i140_242, i140_243, i140_245, i140_248, nl_i, nl_r, nl_0, nl_j, nb0, nb1, nbI, orv_s, konN_v, konN_n, konN_e, true_and, and_true, and_self, if_true, if_false, ite_true, ite_false, isR_ref, true_or, or_true, isR_null, rg10, rg11, rg12, rg13, rg14, rg15, rg16, rh13, rh14, rh15, rh16, bI_T, bI_F, bI_Fb, i1z, Bool.false_eq_true, kr2, ev3']
    refine (ev4' K).trans ((ev5' K).trans ?_)
    have zn' : nI zs.length = nI n := by rw [zl]
    simp only [i140_398, i140_399, i140_400, i140_403, i140_405, i140_408, i140_409, i140_412, i140_413, nl_i, nl_r, nl_0, nl_j, nb0, nb1, nbI, orv_s, konN_v, konN_n, konN_e, true_and, and_true, and_self, if_true, if_false, ite_true, ite_false, isR_ref, true_or, or_true, isR_null, rg10, rg11, rg12, rg13, rg14, rg15, rg16, rh13, rh14, rh15, rh16, bI_T, bI_F, bI_Fb, i1z, Bool.false_eq_true, ev6', zn']
end RLX
