/-! THE LAW'S LINE: a copy -/
def cpF (N : Nat) (q f : Nat → Int32) (tv : Value) (y : Int32) (h : AH) : Prop := (hk h N = 7 ∧ hF h N 0 = .int (f 1) ∧ hF h N 1 = .int (q 1) ∧ hF h N 2 = .int (q 2) ∧ hF h N 3 = .int y ∧ hF h N 4 = tv ∧ hF h N 5 = .ref (N + 26) ∧ hF h N 9 = .ref (N + 5)) ∧ (hk h (N + 5) = 14 ∧ hl h (N + 5) = 20)
def cpZ (N nz : Nat) (D : Nat → Nat → Nat) (g h : AH) (k : Nat) : Prop := (hk h (N + 26) = 14 ∧ hl h (N + 26) = nz) ∧ ∀ z, z < k → hR h (N + 26) z = some (N + 27 + z) ∧ (hk h (N + 27 + z) = 10 ∧ hl h (N + 27 + z) = 5) ∧ hA h (N + 27 + z) = hA g (D 1 z)
def cpH (N nz : Nat) (D : Nat → Nat → Nat) (g h : AH) : Prop := hF h N 6 = .ref (N + 27 + nz) ∧ (hk h (N + 27 + nz) = 10 ∧ hl h (N + 27 + nz) = nz) ∧ hA h (N + 27 + nz) = hA g (D 0 1)
def cpS (N nz ns : Nat) (a : Nat → Nat → Int32) (p : Nat → Int32) (h : AH) (k : Nat) : Prop := (hF h N 7 = .ref (N + 28 + nz) ∧ (hk h (N + 28 + nz) = 15 ∧ hl h (N + 28 + nz) = ns)) ∧ ∀ s, s < k → hR h (N + 28 + nz) s = some (N + 29 + nz + s) ∧ hk h (N + 29 + nz + s) = 20 ∧ hF h (N + 29 + nz + s) 0 = .int (a 4 s) ∧ hF h (N + 29 + nz + s) 1 = .int (a 5 s) ∧ hF h (N + 29 + nz + s) 2 = .int (a 6 s) ∧ hF h (N + 29 + nz + s) 3 = .int (p s)
def cpT (N nz ns : Nat) (D : Nat → Nat → Nat) (g h : AH) (k : Nat) : Prop := ∀ t, t < k → hR h (N + 5) t = some (N + 29 + nz + ns + t) ∧ (hk h (N + 29 + nz + ns + t) = 10 ∧ hl h (N + 29 + nz + ns + t) = 4) ∧ hA h (N + 29 + nz + ns + t) = hA g (D 3 t)
section CPY
variable {g h h' : AH} {B W : Nat → Prop} {l : Nat} {D : Nat → Nat → Nat} {nz ns n c N : Nat} {q pg stk : Nat → Int32} {sa : Nat → Nat → Int32} {tv : Value} {f f' : Nat → Int32} {a a' : Nat → Nat → Int32} {p p' : Nat → Int32} {z s t k : Nat} {y : Int32}
theorem cpF.keep (x : cpF N q f tv y h) (hs : Sm W h h') (h1 : ¬ W N) (hn : N + 5 < hN h) : cpF N q f tv y h' := by
  unfold cpF
  rw [hs.k (show N < hN h by omega), hs.F (show N < hN h by omega) h1, hs.F (show N < hN h by omega) h1, hs.F (show N < hN h by omega) h1, hs.F (show N < hN h by omega) h1, hs.F (show N < hN h by omega) h1, hs.F (show N < hN h by omega) h1, hs.F (show N < hN h by omega) h1, hs.k hn, hs.l hn]
  exact x
theorem cpZ.keep (x : cpZ N nz D g h k) (hs : Sm W h h') (h1 : ¬ W (N + 26)) (h2 : ∀ z, z < k → ¬ W (N + 27 + z)) (hn : N + 26 + k < hN h) : cpZ N nz D g h' k := by
  refine ⟨⟨(hs.k (by omega)).trans x.1.1, (hs.l (by omega)).trans x.1.2⟩, fun z hz => ?_⟩
  rw [hs.R (by omega) h1, hs.k (show N + 27 + z < hN h by omega), hs.l (show N + 27 + z < hN h by omega), hs.A (show N + 27 + z < hN h by omega) (h2 z hz)]
  exact x.2 z hz
theorem cpH.keep (x : cpH N nz D g h) (hs : Sm W h h') (h0 : ¬ W N) (h1 : ¬ W (N + 27 + nz)) (hn : N + 27 + nz < hN h) : cpH N nz D g h' := by
  unfold cpH
  rw [hs.F (show N < hN h by omega) h0, hs.k hn, hs.l hn, hs.A hn h1]
  exact x
theorem cpS.keep (x : cpS N nz ns a p h k) (hs : Sm W h h') (h0 : ¬ W N) (h1 : ¬ W (N + 28 + nz)) (h2 : ∀ s, s < k → ¬ W (N + 29 + nz + s)) (hn : N + 28 + nz + k < hN h) : cpS N nz ns a p h' k := by
  refine ⟨⟨(hs.F (by omega) h0).trans x.1.1, (hs.k (by omega)).trans x.1.2.1, (hs.l (by omega)).trans x.1.2.2⟩, fun s hs' => ?_⟩
  have w := h2 s hs'
  have b : N + 29 + nz + s < hN h := by omega
  rw [hs.R (by omega) h1, hs.k b, hs.F b w, hs.F b w, hs.F b w, hs.F b w]
  exact x.2 s hs'
theorem cpT.keep (x : cpT N nz ns D g h k) (hs : Sm W h h') (h1 : ¬ W (N + 5)) (h2 : ∀ t, t < k → ¬ W (N + 29 + nz + ns + t)) (hn : N + 28 + nz + ns + k < hN h) : cpT N nz ns D g h' k := by
  intro t ht
  have b : N + 29 + nz + ns + t < hN h := by omega
  rw [hs.R (by omega) h1, hs.k b, hs.l b, hs.A b (h2 t ht)]
  exact x t ht
theorem va_up_e {r : Nat → Option Nat} {k : Nat} {v : Option Nat} : va_up r k v k = v := if_pos rfl
theorem va_up_n {r : Nat → Option Nat} {k m : Nat} {v : Option Nat} (hn : ¬ m = k) : va_up r k v m = r m := if_neg hn
/-- one more row of numbers -/
theorem cl_row {x i len : Nat} (hx : x < hN h) : Sm (fun i => i = x) h (wR (wA (alA h 10 len) (hN h) (hA h i)) x (va_up (hR (wA (alA h 10 len) (hN h) (hA h i)) x) k (some (hN h)))) ∧ (∀ m, hR (wR (wA (alA h 10 len) (hN h) (hA h i)) x (va_up (hR (wA (alA h 10 len) (hN h) (hA h i)) x) k (some (hN h)))) x m = if m = k then some (hN h) else hR h x m) ∧ (hk (wR (wA (alA h 10 len) (hN h) (hA h i)) x (va_up (hR (wA (alA h 10 len) (hN h) (hA h i)) x) k (some (hN h)))) (hN h) = 10 ∧ hl (wR (wA (alA h 10 len) (hN h) (hA h i)) x (va_up (hR (wA (alA h 10 len) (hN h) (hA h i)) x) k (some (hN h)))) (hN h) = len) ∧ hA (wR (wA (alA h 10 len) (hN h) (hA h i)) x (va_up (hR (wA (alA h 10 len) (hN h) (hA h i)) x) k (some (hN h)))) (hN h) = hA h i := by
  have s1 : Sm (fun i => i = x) h (alA h 10 len) := Sm.alA
  have s2 : Sm (fun i => i = x) h (wA (alA h 10 len) (hN h) (hA h i)) := (s1.mo (V := fun i => i = x ∨ i = hN h) (fun _ _ z => Or.inl z)).tr (Sm.wA (Or.inr rfl)) |>.mo (fun i hi z => z.elim id (fun z => by omega))
  refine ⟨s2.tr (Sm.wR rfl), fun m => ?_, ⟨alA_k, alA_l⟩, wA_eq⟩
  rw [wR_eq]
  by_cases e : m = k
  · rw [if_pos e, e, va_up_e]
  · rw [if_neg e, va_up_n e]
    show hR (alA h 10 len) x m = _
    exact congrFun (if_neg (Nat.ne_of_lt hx)) m
theorem cp_z (hL : LRc g B l D nz ns q sa tv f a p) (hb : ∀ i, Ad l D nz ns i → i < hN g) (hN0 : N = hN g) (hnz : nz ≤ 6) : ∀ m k c h, k + m = nz → Sx noW c g h → hN h = N + 27 + k → cpF N q f tv y h → cpZ N nz D g h k →
    ∃ h', Sx noW (c + 6 * m) g h' ∧ hN h' = N + 27 + nz ∧ cpF N q f tv y h' ∧ cpZ N nz D g h' nz ∧ ∀ d K, Ev (d + 1) 86 62 [some (.ref l), some (.ref N), some (.int (nI k))] [] h K = Ev (d + 1) 86 95 [some (.ref l), some (.ref N), some (.int (nI nz))] [] h' K
  | 0, k, c, h, hkm, hs, hn, x1, x2 => by
    obtain rfl : k = nz := by omega
    have L := hL.keep hs.1 (fun _ _ z => z) (fun i hi => ⟨hb i hi, fun z => z⟩)
    refine ⟨h, hs, hn, x1, x2, fun d K => ?_⟩
    rw [i86_62]
    simp only [i86_63, i86_64, i86_67, i86_68, nl_i, nl_r, nl_0, nl_j, nb0, nb1, nbI, orv_s, konN_v, konN_n, konN_e, true_and, and_true, and_self, if_true, if_false, ite_true, ite_false, isR_ref, true_or, or_true, isR_null, rg10, rg11, rg12, rg13, rg14, rg15, rg16, rh13, rh14, rh15, rh16, bI_T, bI_F, bI_Fb, i1z, Bool.false_eq_true, lc_k L, lc_f0 L, lc_f1 L, lc_f2 L, lc_f4 L, lc_f5 L, lc_f6 L, lc_f7 L, lc_f8 L, lc_f9 L, lc_k0 L, lc_l0 L, lc_k1 L, lc_l1 L, lc_k2 L, lc_l2 L, lc_k3 L, lc_l3 L, lc_k4 L, lc_l4 L, nI_leI (show k < 2 ^ 31 by omega) (show k < 2 ^ 31 by omega), Nat.le_refl]
  | m + 1, k, c, h, hkm, hs, hn, x1, x2 => by
    have kz : k < nz := by omega
    have L := hL.keep hs.1 (fun _ _ z => z) (fun i hi => ⟨hb i hi, fun z => z⟩)
    obtain ⟨s1, r1, r2, r3⟩ := cl_row (h := h) (x := N + 26) (i := D 1 k) (len := 5) (k := k) (by omega)
    have hW : ∀ i, ¬ i = N + 26 → ¬ (fun i => i = N + 26) i := fun i hi => hi
    have x1' := x1.keep s1 (by omega) (by omega)
    have dz : D 1 k < hN g := hb _ (Or.inr (Or.inr (Or.inl ⟨k, kz, rfl⟩)))
    have ea : hA h (D 1 k) = hA g (D 1 k) := hs.1.A dz (fun z => z)
    have s2 : Sx noW (c + 6) g _ := ⟨(hs.1.mo (V := fun i => i = N + 26) (fun _ _ z => z.elim)).tr s1 |>.mo (fun i hi z => by omega), by have := hs.2.1; show hN h + 1 ≤ _; omega, by have := hs.2.2; show hS h + 5 ≤ _; omega⟩
    have x2' : cpZ N nz D g _ (k + 1) := ⟨⟨(s1.k (by omega)).trans x2.1.1, (s1.l (by omega)).trans x2.1.2⟩, fun z hz => by
      by_cases e : z = k
      · subst e
        rw [r1, if_pos rfl, ← hn]
        exact ⟨rfl, r2, r3.trans ea⟩
      · have b : N + 27 + z < hN h := by omega
        rw [r1, if_neg e, s1.k b, s1.l b, s1.A b (by omega)]
        exact x2.2 z (by omega)⟩
    obtain ⟨h', t1, t2, t3, t4, t5⟩ := cp_z hL hb hN0 hnz m (k + 1) (c + 6) _ (by omega) s2 (by show hN h + 1 = _; omega) x1' x2'
    refine ⟨h', t1.mo (fun _ _ z => z) (by omega), t2, t3, t4, fun d K => ?_⟩
    rw [← t5, i86_62]
    have kk : hk (wA (alA h 10 5) (hN h) (hA h (D 1 k))) (N + 26) = 14 := (s1.k (by omega)).trans x2.1.1
    have kl : hl (wA (alA h 10 5) (hN h) (hA h (D 1 k))) (N + 26) = nz := (s1.l (by omega)).trans x2.1.2
    have kn : hk (wA (alA h 10 5) (hN h) (hA h (D 1 k))) (hN h) = 10 := alA_k
    simp only [i86_63, i86_64, i86_67, i86_68, i86_71, i86_72, i86_75, i86_76, i86_77, i86_80, i86_81, i86_82, i86_85, i86_88, i86_89, i86_92, nl_i, nl_r, nl_0, nl_j, nb0, nb1, nbI, orv_s, konN_v, konN_n, konN_e, true_and, and_true, and_self, if_true, if_false, ite_true, ite_false, isR_ref, true_or, or_true, isR_null, rg10, rg11, rg12, rg13, rg14, rg15, rg16, rh13, rh14, rh15, rh16, bI_T, bI_F, bI_Fb, i1z, Bool.false_eq_true, lc_k L, lc_f0 L, lc_f1 L, lc_f2 L, lc_f4 L, lc_f5 L, lc_f6 L, lc_f7 L, lc_f8 L, lc_f9 L, lc_k0 L, lc_l0 L, lc_k1 L, lc_l1 L, lc_k2 L, lc_l2 L, lc_k3 L, lc_l3 L, lc_k4 L, lc_l4 L, lz_R L kz, lz_k L kz, lz_l L kz, lz_0 L kz, lz_1 L kz, lz_2 L kz, lz_3 L kz, lz_4 L kz, lz_h L kz, nI_leI (show nz < 2 ^ 31 by omega) (show k < 2 ^ 31 by omega), show ¬ nz ≤ k by omega, inbT kz (show nz < 2 ^ 31 by omega), nI_clamp (show k < 2 ^ 31 by omega), ← nI_succ, x1.1.1, x1.1.2.2.2.2.2.2.1, kk, kl, kn]
theorem s_scopy {b : Nat} {v0 v1 v2 v3 : Int32} (hb : b < hN h) (h0 : hk h b = 20) (e0 : hF h b 0 = .int v0) (e1 : hF h b 1 = .int v1) (e2 : hF h b 2 = .int v2) (e3 : hF h b 3 = .int v3) : ∃ h', (Sm noW h h' ∧ hN h' = hN h + 1 ∧ hS h' = hS h + 4) ∧ (hk h' (hN h) = 20 ∧ hF h' (hN h) 0 = .int v0 ∧ hF h' (hN h) 1 = .int v1 ∧ hF h' (hN h) 2 = .int v2 ∧ hF h' (hN h) 3 = .int v3) ∧ ∀ d K, EvM (d + 2) 104 [.ref b] h K = K (.inl (some (.ref (hN h)))) h' := by
  have nb : ¬ b = hN h := by omega
  have r1 : ∀ (x : AH) (k : Nat) (v : Value) (m : Nat), hF (wF x (hN h) k v) b m = hF x b m := fun _ _ _ _ => wF_ne nb
  have r2 : ∀ m, hF (alO h 20 4 (dfl 9)) b m = hF h b m := fun m => (Sm.alO (W := noW)).F hb (fun z => z)
  have k1 : ∀ (x : AH) (k : Nat) (v : Value) (j : Nat), hk (wF x (hN h) k v) j = hk x j := fun _ _ _ _ => rfl
  have k2 : hk (alO h 20 4 (dfl 9)) b = 20 := ((Sm.alO (W := noW)).k hb).trans h0
  have k3 : hk (alO h 20 4 (dfl 9)) (hN h) = 20 := alO_k
  refine ⟨wF (wF (wF (wF (wF (wF (alO h 20 4 (dfl 9)) (hN h) 1 (.int 20)) (hN h) 3 (.int (-2))) (hN h) 0 (.int v0)) (hN h) 1 (.int v1)) (hN h) 2 (.int v2)) (hN h) 3 (.int v3), ⟨?_, rfl, rfl⟩, ⟨?_, ?_, ?_, ?_, ?_⟩, fun d K => ?_⟩
  · have w : ∀ (x : AH) (k : Nat) (v : Value), Sm (fun i => i = hN h) x (wF x (hN h) k v) := fun _ _ _ => Sm.wF rfl
    exact (((((((Sm.alO (W := fun i => i = hN h)).tr (w _ _ _)).tr (w _ _ _)).tr (w _ _ _)).tr (w _ _ _)).tr (w _ _ _)).tr (w _ _ _)).mo (fun i hi z => by omega)
  · exact k3
  · rw [wF_nk (by omega), wF_nk (by omega), wF_nk (by omega), wF_eq]
  · rw [wF_nk (by omega), wF_nk (by omega), wF_eq]
  · rw [wF_nk (by omega), wF_eq]
  · rw [wF_eq]
  · have si := fun (v : Int32) (d : Nat) (K : AO → AH → Prop) => s_sinit (g := alO h 20 4 (dfl 9)) (a := hN h) (v := v) (d := d) (K := K) k3
    simp only [in104, i104_0, i104_3, i104_4, i104_5, i104_8, i104_11, i104_12, i104_13, i104_14, i104_17, i104_20, i104_21, i104_22, i104_25, i104_28, i104_29, i104_30, i104_33, i104_36, i104_37, nl_i, nl_r, nl_0, nl_j, nb0, nb1, nbI, orv_s, konN_v, konN_n, konN_e, true_and, and_true, and_self, if_true, if_false, ite_true, ite_false, isR_ref, true_or, or_true, isR_null, rg10, rg11, rg12, rg13, rg14, rg15, rg16, rh13, rh14, rh15, rh16, bI_T, bI_F, bI_Fb, i1z, Bool.false_eq_true, r1, r2, k1, k2, k3, e0, e1, e2, e3, si, and_true]
theorem cp_s (hL : LRc g B l D nz ns q sa tv f a p) (hb : ∀ i, Ad l D nz ns i → i < hN g) (hN0 : N = hN g) (hns : ns ≤ 20) : ∀ m k c h, k + m = ns → Sx noW c g h → hN h = N + 29 + nz + k → cpF N q f tv y h → cpZ N nz D g h nz → cpH N nz D g h → cpS N nz ns a p h k →
    ∃ h', Sx noW (c + 5 * m) g h' ∧ hN h' = N + 29 + nz + ns ∧ cpF N q f tv y h' ∧ cpZ N nz D g h' nz ∧ cpH N nz D g h' ∧ cpS N nz ns a p h' ns ∧ ∀ d K, Ev (d + 3) 86 123 [some (.ref l), some (.ref N), some (.int (nI k))] [] h K = Ev (d + 3) 86 153 [some (.ref l), some (.ref N), some (.int (nI ns))] [] h' K
  | 0, k, c, h, hkm, hs, hn, x1, x2, x3, x4 => by
    obtain rfl : k = ns := by omega
    have L := hL.keep hs.1 (fun _ _ z => z) (fun i hi => ⟨hb i hi, fun z => z⟩)
    refine ⟨h, hs, hn, x1, x2, x3, x4, fun d K => ?_⟩
    rw [i86_123]
    simp only [i86_124, i86_125, i86_128, i86_129, nl_i, nl_r, nl_0, nl_j, nb0, nb1, nbI, orv_s, konN_v, konN_n, konN_e, true_and, and_true, and_self, if_true, if_false, ite_true, ite_false, isR_ref, true_or, or_true, isR_null, rg10, rg11, rg12, rg13, rg14, rg15, rg16, rh13, rh14, rh15, rh16, bI_T, bI_F, bI_Fb, i1z, Bool.false_eq_true, lc_k L, lc_f0 L, lc_f1 L, lc_f2 L, lc_f4 L, lc_f5 L, lc_f6 L, lc_f7 L, lc_f8 L, lc_f9 L, lc_k0 L, lc_l0 L, lc_k1 L, lc_l1 L, lc_k2 L, lc_l2 L, lc_k3 L, lc_l3 L, lc_k4 L, lc_l4 L, nI_leI (show k < 2 ^ 31 by omega) (show k < 2 ^ 31 by omega), Nat.le_refl]
  | m + 1, k, c, h, hkm, hs, hn, x1, x2, x3, x4 => by
    have ks : k < ns := by omega
    have L := hL.keep hs.1 (fun _ _ z => z) (fun i hi => ⟨hb i hi, fun z => z⟩)
    have ds : D 2 k < hN h := Nat.lt_of_lt_of_le (hb _ (Or.inr (Or.inr (Or.inr (Or.inl ⟨k, ks, rfl⟩))))) hs.1.1
    obtain ⟨h1, ⟨s1, n1, m1⟩, ⟨e0, e1⟩, r1⟩ := s_scopy ds (ls_k L ks) (ls_0 L ks) (ls_1 L ks) (ls_2 L ks) (ls_3 L ks)
    have s2 : Sm (fun i => i = N + 28 + nz) h (wR h1 (N + 28 + nz) (va_up (hR h1 (N + 28 + nz)) k (some (hN h)))) := (s1.mo (fun _ _ z => z.elim)).tr (Sm.wR rfl)
    have s3 : Sx noW (c + 5) g (wR h1 (N + 28 + nz) (va_up (hR h1 (N + 28 + nz)) k (some (hN h)))) := ⟨(hs.1.mo (V := fun i => i = N + 28 + nz) (fun _ _ z => z.elim)).tr s2 |>.mo (fun i hi z => by omega), by have := hs.2.1; show hN h1 ≤ _; omega, by have := hs.2.2; show hS h1 ≤ _; omega⟩
    have x4' : cpS N nz ns a p (wR h1 (N + 28 + nz) (va_up (hR h1 (N + 28 + nz)) k (some (hN h)))) (k + 1) := by
      refine ⟨⟨(s2.F (by omega) (by omega)).trans x4.1.1, (s2.k (by omega)).trans x4.1.2.1, (s2.l (by omega)).trans x4.1.2.2⟩, fun s hs' => ?_⟩
      rw [wR_eq]
      by_cases e : s = k
      · subst e
        rw [va_up_e, ← hn]
        exact ⟨rfl, e0, e1⟩
      · have b : N + 29 + nz + s < hN h := by omega
        have w : ¬ N + 29 + nz + s = N + 28 + nz := by omega
        rw [va_up_n e, s2.k b, s2.F b w, s2.F b w, s2.F b w, s2.F b w, s1.R (by omega) (fun z => z)]
        exact x4.2 s (by omega)
    obtain ⟨h', t1, t2, t3, t4, t5, t6, t7⟩ := cp_s hL hb hN0 hns m (k + 1) (c + 5) _ (by omega) s3 (by show hN h1 = _; omega) (x1.keep s2 (by omega) (by omega)) (x2.keep s2 (by omega) (fun z hz => by omega) (by omega)) (x3.keep s2 (by omega) (by omega) (by omega)) x4'
    refine ⟨h', t1.mo (fun _ _ z => z) (by omega), t2, t3, t4, t5, t6, fun d K => ?_⟩
    have kk : hk h1 (N + 28 + nz) = 15 := (s1.k (by omega)).trans x4.1.2.1
    have kl : hl h1 (N + 28 + nz) = ns := (s1.l (by omega)).trans x4.1.2.2
    rw [← t7, i86_123]
    simp only [i86_124, i86_125, i86_128, i86_129, i86_132, i86_133, i86_136, i86_137, i86_138, i86_141, i86_142, i86_143, i86_146, i86_147, i86_150, nl_i, nl_r, nl_0, nl_j, nb0, nb1, nbI, orv_s, konN_v, konN_n, konN_e, true_and, and_true, and_self, if_true, if_false, ite_true, ite_false, isR_ref, true_or, or_true, isR_null, rg10, rg11, rg12, rg13, rg14, rg15, rg16, rh13, rh14, rh15, rh16, bI_T, bI_F, bI_Fb, i1z, Bool.false_eq_true, lc_k L, lc_f0 L, lc_f1 L, lc_f2 L, lc_f4 L, lc_f5 L, lc_f6 L, lc_f7 L, lc_f8 L, lc_f9 L, lc_k0 L, lc_l0 L, lc_k1 L, lc_l1 L, lc_k2 L, lc_l2 L, lc_k3 L, lc_l3 L, lc_k4 L, lc_l4 L, ls_R L ks, ls_k L ks, ls_0 L ks, ls_1 L ks, ls_2 L ks, ls_3 L ks, nI_leI (show ns < 2 ^ 31 by omega) (show k < 2 ^ 31 by omega), show ¬ ns ≤ k by omega, inbT ks (show ns < 2 ^ 31 by omega), nI_clamp (show k < 2 ^ 31 by omega), ← nI_succ, x1.1.1, x4.1.1, r1, kk, kl, e0]
theorem cp_t (hL : LRc g B l D nz ns q sa tv f a p) (hb : ∀ i, Ad l D nz ns i → i < hN g) (hN0 : N = hN g) : ∀ m k c h, k + m = 20 → Sx noW c g h → hN h = N + 29 + nz + ns + k → cpF N q f tv y h → cpZ N nz D g h nz → cpH N nz D g h → cpS N nz ns a p h ns → hF h N 8 = .ref (D 0 3) → cpT N nz ns D g h k →
    ∃ h', Sx noW (c + 5 * m) g h' ∧ hN h' = N + 49 + nz + ns ∧ cpF N q f tv y h' ∧ cpZ N nz D g h' nz ∧ cpH N nz D g h' ∧ cpS N nz ns a p h' ns ∧ hF h' N 8 = .ref (D 0 3) ∧ cpT N nz ns D g h' 20 ∧ ∀ d K, Ev (d + 1) 86 163 [some (.ref l), some (.ref N), some (.int (nI k))] [] h K = K (.inl (some (.ref N))) h'
  | 0, k, c, h, hkm, hs, hn, x1, x2, x3, x4, x5, x6 => by
    obtain rfl : k = 20 := by omega
    refine ⟨h, hs, by omega, x1, x2, x3, x4, x5, x6, fun d K => ?_⟩
    rw [i86_163]
    simp only [i86_164, i86_166, i86_193, i86_194, nl_i, nl_r, nl_0, nl_j, nb0, nb1, nbI, orv_s, konN_v, konN_n, konN_e, true_and, and_true, and_self, if_true, if_false, ite_true, ite_false, isR_ref, true_or, or_true, isR_null, rg10, rg11, rg12, rg13, rg14, rg15, rg16, rh13, rh14, rh15, rh16, bI_T, bI_F, bI_Fb, i1z, Bool.false_eq_true, show ((20 : Int32) ≤ nI 20) = True from eq_true (by decide)]
  | m + 1, k, c, h, hkm, hs, hn, x1, x2, x3, x4, x5, x6 => by
    have kt : k < 20 := by omega
    have n20 : ((20 : Int32) ≤ nI k) = False := eq_false (by rw [i32_le, nI_toInt (by omega)]; show ¬ (20 : Int) ≤ _; omega)
    have L := hL.keep hs.1 (fun _ _ z => z) (fun i hi => ⟨hb i hi, fun z => z⟩)
    obtain ⟨s1, r1, r2, r3⟩ := cl_row (h := h) (x := N + 5) (i := D 3 k) (len := 4) (k := k) (by omega)
    have dt : D 3 k < hN g := hb _ (Or.inr (Or.inr (Or.inr (Or.inr ⟨k, kt, rfl⟩))))
    have ea : hA h (D 3 k) = hA g (D 3 k) := hs.1.A dt (fun z => z)
    have s2 : Sx noW (c + 5) g _ := ⟨(hs.1.mo (V := fun i => i = N + 5) (fun _ _ z => z.elim)).tr s1 |>.mo (fun i hi z => by omega), by have := hs.2.1; show hN h + 1 ≤ _; omega, by have := hs.2.2; show hS h + 4 ≤ _; omega⟩
    have x6' : cpT N nz ns D g _ (k + 1) := fun t ht => by
      by_cases e : t = k
      · subst e
        rw [r1, if_pos rfl, ← hn]
        exact ⟨rfl, r2, r3.trans ea⟩
      · have b : N + 29 + nz + ns + t < hN h := by omega
        rw [r1, if_neg e, s1.k b, s1.l b, s1.A b (by omega)]
        exact x6 t (by omega)
    obtain ⟨h', t1, t2, t3, t4, t5, t6, t7, t8, t9⟩ := cp_t hL hb hN0 m (k + 1) (c + 5) _ (by omega) s2 (by show hN h + 1 = _; omega) (x1.keep s1 (by omega) (by omega)) (x2.keep s1 (by omega) (fun z hz => by omega) (by omega)) (x3.keep s1 (by omega) (by omega) (by omega)) (x4.keep s1 (by omega) (by omega) (fun z hz => by omega) (by omega)) ((s1.F (by omega) (by omega)).trans x5) x6'
    refine ⟨h', t1.mo (fun _ _ z => z) (by omega), t2, t3, t4, t5, t6, t7, t8, fun d K => ?_⟩
    have kk : hk (wA (alA h 10 4) (hN h) (hA h (D 3 k))) (N + 5) = 14 := (s1.k (by omega)).trans x1.2.1
    have kl : hl (wA (alA h 10 4) (hN h) (hA h (D 3 k))) (N + 5) = 20 := (s1.l (by omega)).trans x1.2.2
    have kn : hk (wA (alA h 10 4) (hN h) (hA h (D 3 k))) (hN h) = 10 := alA_k
    rw [← t9 d K, i86_163]
    simp only [i86_164, i86_166, i86_169, i86_170, i86_173, i86_174, i86_175, i86_178, i86_179, i86_180, i86_183, i86_186, i86_187, i86_190, nl_i, nl_r, nl_0, nl_j, nb0, nb1, nbI, orv_s, konN_v, konN_n, konN_e, true_and, and_true, and_self, if_true, if_false, ite_true, ite_false, isR_ref, true_or, or_true, isR_null, rg10, rg11, rg12, rg13, rg14, rg15, rg16, rh13, rh14, rh15, rh16, bI_T, bI_F, bI_Fb, i1z, Bool.false_eq_true, n20, lc_k L, lc_f0 L, lc_f1 L, lc_f2 L, lc_f4 L, lc_f5 L, lc_f6 L, lc_f7 L, lc_f8 L, lc_f9 L, lc_k0 L, lc_l0 L, lc_k1 L, lc_l1 L, lc_k2 L, lc_l2 L, lc_k3 L, lc_l3 L, lc_k4 L, lc_l4 L, lw_R L kt, lw_k L kt, lw_l L kt, lw_0 L kt, lw_1 L kt, lw_2 L kt, lw_3 L kt, inbT kt (show 20 < 2 ^ 31 by omega), nI_clamp (show k < 2 ^ 31 by omega), ← nI_succ, x1.1.1, x1.1.2.2.2.2.2.2.2, kk, kl, kn]
end CPY
