/-! THE LAW'S LINE: one more sheet -/
def DaF (D : Nat → Nat → Nat) (ns N : Nat) (i j : Nat) : Nat := if i = 0 ∧ j = 2 then N else if i = 2 ∧ j = ns then N + 1 else D i j
section ADD
variable {g h h' : AH} {B W : Nat → Prop} {l : Nat} {D : Nat → Nat → Nat} {nz ns n c N : Nat} {q pg stk : Nat → Int32} {sa : Nat → Nat → Int32} {tv : Value} {f f' : Nat → Int32} {a a' : Nat → Nat → Int32} {p p' : Nat → Int32} {z s t k : Nat} {y th : Int32}
theorem Da_02 : DaF D ns N 0 2 = N := if_pos ⟨rfl, rfl⟩
theorem Da_n : DaF D ns N 2 ns = N + 1 := (if_neg (fun z => by omega)).trans (if_pos ⟨rfl, rfl⟩)
theorem Da_o {i j : Nat} (h1 : ¬ (i = 0 ∧ j = 2)) (h2 : ¬ (i = 2 ∧ j = ns)) : DaF D ns N i j = D i j := (if_neg h1).trans (if_neg h2)
theorem Da_ad {i : Nat} (h : Ad l (DaF D ns N) nz (ns + 1) i) : Ad l D nz ns i ∨ i = N ∨ i = N + 1 := by
  rcases h with h | ⟨j, hj, h⟩ | ⟨z, hz, h⟩ | ⟨s, hs, h⟩ | ⟨t, ht, h⟩
  · exact Or.inl (Or.inl h)
  · by_cases e : j = 2
    · subst e
      rw [Da_02] at h
      exact Or.inr (Or.inl h)
    · rw [Da_o (by omega) (by omega)] at h
      exact Or.inl (Or.inr (Or.inl ⟨j, hj, h⟩))
  · rw [Da_o (by omega) (by omega)] at h
    exact Or.inl (Or.inr (Or.inr (Or.inl ⟨z, hz, h⟩)))
  · by_cases e : s = ns
    · subst e
      rw [Da_n] at h
      exact Or.inr (Or.inr h)
    · rw [Da_o (by omega) (by omega)] at h
      exact Or.inl (Or.inr (Or.inr (Or.inr (Or.inl ⟨s, by omega, h⟩))))
  · rw [Da_o (by omega) (by omega)] at h
    exact Or.inl (Or.inr (Or.inr (Or.inr (Or.inr ⟨t, ht, h⟩))))
theorem ad_loop (hL : LRc g B l D nz ns q sa tv f a p) (hb : ∀ i, Ad l D nz ns i → i < hN g) (hN0 : N = hN g) (hns : ns ≤ 20) : ∀ m k h, k + m = ns → Sm noW g h → hN h = N + 1 → hS h = hS g + ns + 1 → (hk h N = 15 ∧ hl h N = ns + 1) → (∀ s, s < k → hR h N s = some (D 2 s)) →
    ∃ h', (Sm noW g h' ∧ hN h' = N + 1 ∧ hS h' = hS g + ns + 1) ∧ (hk h' N = 15 ∧ hl h' N = ns + 1) ∧ (∀ s, s < ns → hR h' N s = some (D 2 s)) ∧ ∀ d K, Ev (d + 1) 95 13 [some (.ref l), some (.int th), some (.ref N), some (.int (nI k))] [] h K = Ev (d + 1) 95 37 [some (.ref l), some (.int th), some (.ref N), some (.int (nI ns))] [] h' K
  | 0, k, h, hkm, hs, hn, hm, x1, x2 => by
    obtain rfl : k = ns := by omega
    have L := hL.keep hs (fun _ _ z => z) (fun i hi => ⟨hb i hi, fun z => z⟩)
    refine ⟨h, ⟨hs, hn, hm⟩, x1, x2, fun d K => ?_⟩
    rw [i95_13]
    simp only [i95_14, i95_15, i95_18, i95_19, nl_i, nl_r, nl_0, nl_j, nb0, nb1, nbI, orv_s, konN_v, konN_n, konN_e, true_and, and_true, and_self, if_true, if_false, ite_true, ite_false, isR_ref, true_or, or_true, isR_null, rg10, rg11, rg12, rg13, rg14, rg15, rg16, rh13, rh14, rh15, rh16, bI_T, bI_F, bI_Fb, i1z, Bool.false_eq_true, lc_k L, lc_f0 L, lc_f1 L, lc_f2 L, lc_f4 L, lc_f5 L, lc_f6 L, lc_f7 L, lc_f8 L, lc_f9 L, lc_k0 L, lc_l0 L, lc_k1 L, lc_l1 L, lc_k2 L, lc_l2 L, lc_k3 L, lc_l3 L, lc_k4 L, lc_l4 L, nI_leI (show k < 2 ^ 31 by omega) (show k < 2 ^ 31 by omega), Nat.le_refl]
  | m + 1, k, h, hkm, hs, hn, hm, x1, x2 => by
    have ks : k < ns := by omega
    have L := hL.keep hs (fun _ _ z => z) (fun i hi => ⟨hb i hi, fun z => z⟩)
    have s1 : Sm (fun i => i = N) h (wR h N (va_up (hR h N) k (some (D 2 k)))) := Sm.wR rfl
    have s2 : Sm noW g (wR h N (va_up (hR h N) k (some (D 2 k)))) := ((hs.mo (V := fun i => i = N) (fun _ _ z => z.elim)).tr s1).mo (fun i hi z => by omega)
    obtain ⟨h', t1, t2, t3, t4⟩ := ad_loop hL hb hN0 hns m (k + 1) _ (by omega) s2 hn hm x1 (fun s hs' => by
      rw [wR_eq]
      by_cases e : s = k
      · rw [e, va_up_e]
      · rw [va_up_n e]
        exact x2 s (by omega))
    refine ⟨h', t1, t2, t3, fun d K => ?_⟩
    rw [← t4, i95_13]
    simp only [i95_14, i95_15, i95_18, i95_19, i95_22, i95_23, i95_24, i95_25, i95_28, i95_29, i95_30, i95_31, i95_34, nl_i, nl_r, nl_0, nl_j, nb0, nb1, nbI, orv_s, konN_v, konN_n, konN_e, true_and, and_true, and_self, if_true, if_false, ite_true, ite_false, isR_ref, true_or, or_true, isR_null, rg10, rg11, rg12, rg13, rg14, rg15, rg16, rh13, rh14, rh15, rh16, bI_T, bI_F, bI_Fb, i1z, Bool.false_eq_true, lc_k L, lc_f0 L, lc_f1 L, lc_f2 L, lc_f4 L, lc_f5 L, lc_f6 L, lc_f7 L, lc_f8 L, lc_f9 L, lc_k0 L, lc_l0 L, lc_k1 L, lc_l1 L, lc_k2 L, lc_l2 L, lc_k3 L, lc_l3 L, lc_k4 L, lc_l4 L, ls_R L ks, ls_k L ks, ls_0 L ks, ls_1 L ks, ls_2 L ks, ls_3 L ks, nI_leI (show ns < 2 ^ 31 by omega) (show k < 2 ^ 31 by omega), show ¬ ns ≤ k by omega, inbT ks (show ns < 2 ^ 31 by omega), inbT (show k < ns + 1 by omega) (show ns + 1 < 2 ^ 31 by omega), nI_clamp (show k < 2 ^ 31 by omega), ← nI_succ, x1.1, x1.2]
theorem INV_put (hI : INV nz ns f a) (h20 : ns < 20) (h0 : 0 < nz) (hth : 2 ≤ th ∧ th ≤ 19) : INV nz (ns + 1) (putL f a th).1 (putL f a th).2 := by
  obtain ⟨⟨i1, i2, i3⟩, i4, i5, i7, i8, i9⟩ := hI
  have zf : zn (f 2) = ns := by rw [i1]; exact nI_clamp (by omega)
  have e4 : (putL f a th).2 4 = upd (a 4) ns th := by rw [← zf]; rfl
  have e5 : (putL f a th).2 5 = upd (a 5) ns 20 := by rw [← zf]; rfl
  have e6 : (putL f a th).2 6 = upd (a 6) ns 0 := by rw [← zf]; rfl
  have e2 : (putL f a th).1 2 = nI (ns + 1) := by
    show f 2 + 1 = _
    rw [i1]
    exact (nI_succ ns).symm
  refine ⟨⟨e2, by omega, fun z => by omega⟩, ?_, ⟨?_, ?_⟩, i7, ?_, i9⟩
  · rcases i4 with x | ⟨s, h1, h2, h3, h4⟩
    · exact Or.inl x
    · refine Or.inr ⟨s, by omega, h2, h3, ?_⟩
      rw [e6, upd_n (by omega)]
      exact h4
  · intro z hz
    rcases i5.1 z hz with x | ⟨s, h1, h2, h3⟩
    · exact Or.inl x
    · refine Or.inr ⟨s, by omega, h2, ?_⟩
      rw [e6, upd_n (by omega)]
      exact h3
  · exact i5.2
  · intro s hs
    rw [e4, e5, e6]
    by_cases e : s = ns
    · subst e
      rw [upd_e, upd_e, upd_e]
      exact ⟨hth, by decide, by decide⟩
    · rw [upd_n e, upd_n e, upd_n e]
      exact i8 s (by omega)
theorem PLc_put (hI : INV nz ns f a) (hP : PLc nz ns f a p) (n6 : nz ≤ 6) : PLc nz (ns + 1) (putL f a th).1 (putL f a th).2 (upd p ns (-2)) := by
  have n20 := hI.1.2.1
  refine ⟨fun s hs z hz => ?_, fun s hs => ?_⟩
  · show _ ↔ a 3 z = nI s
    by_cases e : s = ns
    · subst e
      rw [upd_e]
      refine ⟨fun y => absurd y (nI_nm2 (by omega)), fun y => ?_⟩
      rcases hI.2.2.1.1 z hz with e0 | ⟨s', h1, h2, -⟩
      · rw [e0] at y
        exact absurd y.symm (nI_nm1 (by omega))
      · have := nI_inj (by omega) (by omega) (y.symm.trans h2)
        omega
    · rw [upd_n e]
      exact hP.1 s (by omega) z hz
  · show _ ↔ f 3 = nI s
    by_cases e : s = ns
    · subst e
      rw [upd_e]
      refine ⟨fun y => absurd y (by decide), fun y => ?_⟩
      rcases hI.2.1 with e0 | ⟨s', h1, h2, -⟩
      · rw [e0.1] at y
        exact absurd y.symm (nI_nm1 (by omega))
      · have := nI_inj (by omega) (by omega) (y.symm.trans h2)
        omega
    · rw [upd_n e]
      exact hP.2 s (by omega)
theorem s_ladd (h : LLn g B l D nz ns q sa tv pg n f a p) (hBn : ∀ i, B i → i < hN g) (h20 : ns < 20) (h0 : 0 < nz) (hth : 2 ≤ th ∧ th ≤ 19) : ∃ g', (Sx (Aw l D nz ns) 30 g g' ∧ LLn g' B l (DaF D ns (hN g)) nz (ns + 1) q sa tv pg n (putL f a th).1 (putL f a th).2 (upd p ns (-2))) ∧ ∀ d K, EvM (d + 2) 95 [.ref l, .int th] g K = K (.inl none) g' := by
  have hL := h.1
  have hI := h.2.2.2.1
  have n6 := h.2.2.2.2.2.1.2
  have hb := h.2.1.2
  obtain ⟨N, hN0⟩ : ∃ N, N = hN g := ⟨_, rfl⟩
  have zf : zn (f 2) = ns := by rw [hI.1.1]; exact nI_clamp (by omega)
  have e4 : (putL f a th).2 4 = upd (a 4) ns th := by rw [← zf]; rfl
  have e5 : (putL f a th).2 5 = upd (a 5) ns 20 := by rw [← zf]; rfl
  have e6 : (putL f a th).2 6 = upd (a 6) ns 0 := by rw [← zf]; rfl
  have eo : ∀ i, ¬ i = 4 → ¬ i = 5 → ¬ i = 6 → (putL f a th).2 i = a i := fun i h4 h5 h6 => by
    show upf (upf (upf a 4 _) 5 _) 6 _ i = a i
    rw [upf_ne _ _ h6, upf_ne _ _ h5, upf_ne _ _ h4]
  have s0 : Sm noW g (alA g 15 (ns + 1)) := Sm.alA
  obtain ⟨h1, ⟨s1, n1, m1⟩, ⟨k1, l1⟩, r1, rl⟩ := ad_loop (th := th) hL hb hN0 (by omega) ns 0 (alA g 15 (ns + 1)) (by omega) s0 (by rw [hN0]; rfl) rfl (by rw [hN0]; exact ⟨alA_k, alA_l⟩) (fun s hs => by omega)
  have L1 := hL.keep s1 (fun _ _ z => z) (fun i hi => ⟨hb i hi, fun z => z⟩)
  -- the new sheet
  obtain ⟨h2, hh2⟩ : ∃ x, x = wF (wF (wF (alO h1 20 4 (dfl 9)) (N + 1) 1 (.int 20)) (N + 1) 3 (.int (-2))) (N + 1) 0 (.int th) := ⟨_, rfl⟩
  have kS : hk (alO h1 20 4 (dfl 9)) (N + 1) = 20 := by rw [← n1]; exact alO_k
  have n2 : hN h2 = N + 2 := by rw [hh2]; show hN h1 + 1 = _; omega
  have m2 : hS h2 = hS g + ns + 5 := by rw [hh2]; show hS h1 + 4 = _; omega
  have s2 : Sm noW h1 h2 := by
    have w : ∀ (x : AH) (k : Nat) (v : Value), Sm (fun i => i = N + 1) x (wF x (N + 1) k v) := fun _ _ _ => Sm.wF rfl
    rw [hh2]
    exact ((((Sm.alO (W := fun i => i = N + 1)).tr (w _ _ _)).tr (w _ _ _)).tr (w _ _ _)).mo (fun i hi z => by omega)
  have L2 := hL.keep (s1.tr s2) (fun _ _ z => z) (fun i hi => ⟨hb i hi, fun z => z⟩)
  have v0 : hF h2 (N + 1) 0 = .int th := by rw [hh2, wF_eq]
  have v1 : hF h2 (N + 1) 1 = .int 20 := by rw [hh2, wF_nk (by omega), wF_nk (by omega), wF_eq]
  have v3 : hF h2 (N + 1) 3 = .int (-2) := by rw [hh2, wF_nk (by omega), wF_eq]
  have v2 : hF h2 (N + 1) 2 = .int 0 := by
    rw [hh2, wF_nk (by omega), wF_nk (by omega), wF_nk (by omega), ← n1, alO_F]
    rfl
  have k2 : hk h2 (N + 1) = 20 := by rw [hh2]; exact kS
  -- into the row, the row into the line
  obtain ⟨h3, hh3⟩ : ∃ x, x = wR h2 N (va_up (hR h2 N) ns (some (N + 1))) := ⟨_, rfl⟩
  obtain ⟨h4, hh4⟩ : ∃ x, x = wF h3 l 7 (.ref N) := ⟨_, rfl⟩
  have s3 : Sm (fun i => i = N) h2 h3 := by rw [hh3]; exact Sm.wR rfl
  have s4 : Sm (fun i => i = l) h3 h4 := by rw [hh4]; exact Sm.wF rfl
  have n3 : hN h3 = N + 2 := by rw [hh3]; exact n2
  have n4 : hN h4 = N + 2 := by rw [hh4]; exact n3
  have m4 : hS h4 = hS g + ns + 5 := by rw [hh4, hh3]; exact m2
  have g3 : Sm noW g h3 := (((s1.tr s2).mo (V := fun i => i = N) (fun _ _ z => z.elim)).tr s3).mo (fun i hi z => by omega)
  have g4 : Sm (fun i => i = l) g h4 := (g3.mo (fun _ _ z => z.elim)).tr s4
  have gx : Sx (Aw l D nz ns) 30 g h4 := ⟨g4.mo (fun i hi z => Or.inl z), by omega, by omega⟩
  have L3 := hL.keep g3 (fun _ _ z => z) (fun i hi => ⟨hb i hi, fun z => z⟩)
  have lN : l < N := by have := hb l (Or.inl rfl); omega
  obtain ⟨c, cl, cd, cz, cs, ct⟩ := h.2.1.1.1
  have ne : ∀ i j, c i = j → ¬ j = (9, 0) → ¬ i = l := fun i j hc hj e => by
    rw [e, cl] at hc
    exact hj hc.symm
  have ad : ∀ j, j < 5 → D 0 j < N ∧ ¬ D 0 j = l := fun j hj => ⟨by have := hb _ (Or.inr (Or.inl ⟨j, hj, rfl⟩)); omega, ne _ _ (cd j hj) (by simp)⟩
  have az : ∀ z, z < nz → D 1 z < N ∧ ¬ D 1 z = l := fun z hz => ⟨by have := hb _ (Or.inr (Or.inr (Or.inl ⟨z, hz, rfl⟩))); omega, ne _ _ (cz z hz) (by simp)⟩
  have as : ∀ s, s < ns → D 2 s < N ∧ ¬ D 2 s = l := fun s hs => ⟨by have := hb _ (Or.inr (Or.inr (Or.inr (Or.inl ⟨s, hs, rfl⟩)))); omega, ne _ _ (cs s hs) (by simp)⟩
  have at' : ∀ t, t < 20 → D 3 t < N ∧ ¬ D 3 t = l := fun t ht => ⟨by have := hb _ (Or.inr (Or.inr (Or.inr (Or.inr ⟨t, ht, rfl⟩)))); omega, ne _ _ (ct t ht) (by simp)⟩
  have fl : ∀ k, ¬ k = 7 → hF h4 l k = hF g l k := fun k hk7 => by rw [hh4, wF_nk hk7, g3.F (by omega) (fun z => z)]
  have hBl : ∀ i, B i → ¬ i = l := fun i hi e => h.2.1.1.2 i hi (Or.inl e)
  have LR : LRc h4 B l (DaF D ns N) nz (ns + 1) q sa tv (putL f a th).1 (putL f a th).2 (upd p ns (-2)) := by
    obtain ⟨⟨a0, a1, a2, a3, a4, a5, a6, a7, a8, a9, a10⟩, ⟨b1, b2, b3, b4, b5⟩, c1, c2, c3, c4, c5⟩ := hL
    have w0 : DaF D ns N 0 0 = D 0 0 := Da_o (by omega) (by omega)
    have w1 : DaF D ns N 0 1 = D 0 1 := Da_o (by omega) (by omega)
    have w3 : DaF D ns N 0 3 = D 0 3 := Da_o (by omega) (by omega)
    have w4 : DaF D ns N 0 4 = D 0 4 := Da_o (by omega) (by omega)
    unfold LRc
    rw [w0, w1, w3, w4, Da_02, e4, e5, e6, eo 1 (by omega) (by omega) (by omega), eo 2 (by omega) (by omega) (by omega), eo 7 (by omega) (by omega) (by omega), eo 8 (by omega) (by omega) (by omega), eo 9 (by omega) (by omega) (by omega), eo 10 (by omega) (by omega) (by omega)]
    have kk : ∀ i, i < N → hk h4 i = hk g i ∧ hl h4 i = hl g i := fun i hi => ⟨g4.k (by omega), g4.l (by omega)⟩
    refine ⟨⟨(kk l lN).1.trans a0, (fl 0 (by omega)).trans a1, (fl 1 (by omega)).trans a2, (fl 2 (by omega)).trans a3, ?_, (fl 4 (by omega)).trans a5, (fl 5 (by omega)).trans a6, (fl 6 (by omega)).trans a7, ?_, (fl 8 (by omega)).trans a9, (fl 9 (by omega)).trans a10⟩, ⟨?_, ?_, ⟨?_, ?_⟩, ?_, ?_⟩, fun z hz => ?_, fun z hz => ?_, fun s hs => ?_, fun t ht => ?_, fun t ht => ?_⟩
    · obtain ⟨y, y1, y2⟩ := a4
      exact ⟨y, (fl 3 (by omega)).trans y1, y2⟩
    · rw [hh4, wF_eq]
    · rw [(kk _ (ad 0 (by omega)).1).1, (kk _ (ad 0 (by omega)).1).2]; exact b1
    · rw [(kk _ (ad 1 (by omega)).1).1, (kk _ (ad 1 (by omega)).1).2]; exact b2
    · rw [s4.k (by omega), s3.k (by omega), s2.k (by omega)]; exact k1
    · rw [s4.l (by omega), s3.l (by omega), s2.l (by omega)]; exact l1
    · rw [(kk _ (ad 3 (by omega)).1).1, (kk _ (ad 3 (by omega)).1).2]; exact b4
    · rw [(kk _ (ad 4 (by omega)).1).1, (kk _ (ad 4 (by omega)).1).2]; exact b5
    · have x := az z hz
      rw [Da_o (by omega) (by omega), g4.R (by have := ad 0 (by omega); omega) (ad 0 (by omega)).2, (kk _ x.1).1, (kk _ x.1).2, g4.A (by omega) x.2]
      exact c1 z hz
    · have x := ad 1 (by omega)
      rw [g4.A (by omega) x.2]
      exact c2 z hz
    · have er : hR h4 N = va_up (hR h2 N) ns (some (N + 1)) := by
        rw [s4.R (by omega) (by omega), hh3, wR_eq]
      rw [er]
      by_cases e : s = ns
      · subst e
        rw [Da_n, va_up_e, upd_e, upd_e, upd_e, upd_e]
        have hn : ¬ N + 1 = l := by omega
        have ff : ∀ k, hF h4 (N + 1) k = hF h2 (N + 1) k := fun k => by rw [s4.F (by omega) hn, s3.F (by omega) (by omega)]
        rw [ff, ff, ff, ff, s4.k (by omega), s3.k (by omega)]
        exact ⟨rfl, k2, v0, v1, v2, v3⟩
      · have x := as s (by omega)
        rw [Da_o (by omega) (by omega), va_up_n e, upd_n e, upd_n e, upd_n e, upd_n e, s2.R (by omega) (fun z => z), r1 s (by omega), (kk _ x.1).1, g4.F (by omega) x.2, g4.F (by omega) x.2, g4.F (by omega) x.2, g4.F (by omega) x.2]
        exact ⟨rfl, (c3 s (by omega)).2⟩
    · rw [g4.R (by have := ad 3 (by omega); omega) (ad 3 (by omega)).2]
      exact (c4 t ht).keep g4 hBl
    · have x := at' t ht
      rw [Da_o (by omega) (by omega), g4.R (by have := ad 4 (by omega); omega) (ad 4 (by omega)).2, (kk _ x.1).1, (kk _ x.1).2, g4.A (by omega) x.2]
      exact c5 t ht
  rw [← hN0]
  refine ⟨h4, ⟨gx, LR, ⟨⟨⟨fun i => if i = N then (0, 2) else if i = N + 1 then (2, ns) else c i, ?_, fun j hj => ?_, fun z hz => ?_, fun s hs => ?_, fun t ht => ?_⟩, fun i hi hw => ?_⟩, fun i hi => ?_⟩, h.2.2.1.keep g4 hBl, INV_put hI h20 h0 hth, PLc_put hI h.2.2.2.2.1 n6, h.2.2.2.2.2⟩, fun d K => ?_⟩
  · show (if l = N then _ else if l = N + 1 then _ else c l) = _
    rw [if_neg (by omega), if_neg (by omega)]
    exact cl
  · show (if DaF D ns N 0 j = N then _ else if DaF D ns N 0 j = N + 1 then _ else c (DaF D ns N 0 j)) = _
    by_cases e : j = 2
    · subst e
      rw [Da_02, if_pos rfl]
    · have x := ad j hj
      rw [Da_o (by omega) (by omega), if_neg (by omega), if_neg (by omega)]
      exact cd j hj
  · show (if DaF D ns N 1 z = N then _ else if DaF D ns N 1 z = N + 1 then _ else c (DaF D ns N 1 z)) = _
    have x := az z hz
    rw [Da_o (by omega) (by omega), if_neg (by omega), if_neg (by omega)]
    exact cz z hz
  · show (if DaF D ns N 2 s = N then _ else if DaF D ns N 2 s = N + 1 then _ else c (DaF D ns N 2 s)) = _
    by_cases e : s = ns
    · subst e
      rw [Da_n, if_neg (by omega), if_pos rfl]
    · have x := as s (by omega)
      rw [Da_o (by omega) (by omega), if_neg (by omega), if_neg (by omega)]
      exact cs s (by omega)
  · show (if DaF D ns N 3 t = N then _ else if DaF D ns N 3 t = N + 1 then _ else c (DaF D ns N 3 t)) = _
    have x := at' t ht
    rw [Da_o (by omega) (by omega), if_neg (by omega), if_neg (by omega)]
    exact ct t ht
  · have := hBn i hi
    rcases Da_ad hw with z | z
    · exact h.2.1.1.2 i hi z
    · omega
  · rcases Da_ad hi with z | z
    · have := hb i z
      omega
    · omega
  · rw [nI_0] at rl
    have kN : hN g = N := hN0.symm
    have si := fun (d : Nat) (K : AO → AH → Prop) => s_sinit (g := alO h1 20 4 (dfl 9)) (a := N + 1) (v := th) (d := d) (K := K) kS
    have q1 : hk h2 N = 15 := (s2.k (by omega)).trans k1
    have q2 : hl h2 N = ns + 1 := (s2.l (by omega)).trans l1
    rw [hh4, hh3]
    simp only [i95_0, i95_1, i95_4, i95_5, i95_6, i95_7, i95_10, i95_11, i95_12, i95_37, i95_38, i95_39, i95_42, i95_43, i95_46, i95_47, i95_48, i95_51, i95_52, i95_53, i95_54, i95_57, in95, nl_i, nl_r, nl_0, nl_j, nb0, nb1, nbI, orv_s, konN_v, konN_n, konN_e, true_and, and_true, and_self, if_true, if_false, ite_true, ite_false, isR_ref, true_or, or_true, isR_null, rg10, rg11, rg12, rg13, rg14, rg15, rg16, rh13, rh14, rh15, rh16, bI_T, bI_F, bI_Fb, i1z, Bool.false_eq_true, kN, lc_k hL, lc_f0 hL, lc_f1 hL, lc_f2 hL, lc_f4 hL, lc_f5 hL, lc_f6 hL, lc_f7 hL, lc_f8 hL, lc_f9 hL, lc_k0 hL, lc_l0 hL, lc_k1 hL, lc_l1 hL, lc_k2 hL, lc_l2 hL, lc_k3 hL, lc_l3 hL, lc_k4 hL, lc_l4 hL, ← nI_succ, nI_clamp (show ns + 1 < 2 ^ 31 by omega), len_ok (show ns + 1 ≤ 60000000 by omega), rl, lc_k L1, lc_f0 L1, lc_f1 L1, lc_f2 L1, lc_f4 L1, lc_f5 L1, lc_f6 L1, lc_f7 L1, lc_f8 L1, lc_f9 L1, lc_k0 L1, lc_l0 L1, lc_k1 L1, lc_l1 L1, lc_k2 L1, lc_l2 L1, lc_k3 L1, lc_l3 L1, lc_k4 L1, lc_l4 L1, n1, kS, si, ← hh2, k2, q1, q2, inbT (show ns < ns + 1 by omega) (show ns + 1 < 2 ^ 31 by omega), nI_clamp (show ns < 2 ^ 31 by omega), (Sm.wR (W := fun i => i = N) (g := h2) (f := va_up (hR h2 N) ns (some (N + 1))) rfl).k (show l < hN h2 by omega), lc_k L2, lc_f0 L2, lc_f1 L2, lc_f2 L2, lc_f4 L2, lc_f5 L2, lc_f6 L2, lc_f7 L2, lc_f8 L2, lc_f9 L2, lc_k0 L2, lc_l0 L2, lc_k1 L2, lc_l1 L2, lc_k2 L2, lc_l2 L2, lc_k3 L2, lc_l3 L2, lc_k4 L2, lc_l4 L2]
end ADD
