/-! FACE: load of the law's text -/
def txT (q1 q2 : Nat) (zs : List Z5) (bs : List B3) (ht : List Nat) : List Nat := hdT q1 q2 ++ (zosT zs ++ (bdsT bs ++ ht))
section LDX
variable {h : AH} {s t n : Nat} {q pg : Nat → Int32} {a : Nat → Nat → Int32} {W : Nat → Prop}
theorem Sm.SP (hs : ∀ j, j ≤ 7 → W (s + j)) : Sm W h (SP h s q a t) := ⟨Nat.le_refl _, Nat.le_refl _, rfl, fun _ _ => ⟨rfl, rfl⟩, fun i hi hw => ⟨fun k => if_neg (fun e => hw (by rw [e]; exact hs 0 (by omega))), if_neg (fun e => hw (by have := hs (i - s) (by omega); rw [show s + (i - s) = i by omega] at this; exact this)), rfl, rfl⟩⟩
theorem nh_Sm {N t b : Nat} (h1 : N ≤ t) (h2 : N ≤ hN h) : Sm (fun i => N ≤ i) h (newHeat h t b n) := by
  unfold newHeat
  exact (((Sm.alA.tr (Sm.wF (W := fun i => N ≤ i) h1)).tr (Sm.wA (W := fun i => N ≤ i) h2)).tr Sm.alA).tr (Sm.wF (W := fun i => N ≤ i) h1)
theorem nsA_Sm {N s : Nat} (h1 : N ≤ s) : Sm (fun i => N ≤ i) h (nsA h s) := by
  unfold nsA
  have w : ∀ (x : AH) (k : Nat) (v : Value), Sm (fun i => N ≤ i) x (wF x s k v) := fun _ _ _ => Sm.wF h1
  exact ((((((Sm.alA.tr (w _ _ _)).tr (Sm.alA.tr (w _ _ _))).tr (Sm.alA.tr (w _ _ _))).tr (Sm.alA.tr (w _ _ _))).tr (Sm.alA.tr (w _ _ _))).tr (Sm.alA.tr (w _ _ _))).tr (Sm.alA.tr (w _ _ _))
theorem nsB_Sm {N s : Nat} (h1 : N ≤ s) : Sm (fun i => N ≤ i) h (nsB h s) := by
  unfold nsB
  have w : ∀ (x : AH) (k : Nat) (v : Nat → Int32), Sm (fun i => N ≤ i) x (wA x (s + k) v) := fun _ _ _ => Sm.wA (by omega)
  exact (((((nsA_Sm h1).tr (w _ 6 _)).tr (w _ 7 _)).tr Sm.alA).tr (w _ 8 _)).tr Sm.alO
theorem hB_Sm : Sm (fun i => hN h ≤ i) h (hB h) := by
  unfold hB newSetup
  have n : hN h ≤ hN (nsB (alO h 4 11 (dfl 3)) (hN h)) := by
    have x := (nsB_Sm (h := alO h 4 11 (dfl 3)) (Nat.le_refl (hN h))).1
    have y : hN (alO h 4 11 (dfl 3)) = hN h + 1 := rfl
    omega
  exact ((Sm.alO.tr (nsB_Sm (Nat.le_refl _))).tr (nh_Sm (by omega) n)).tr (Sm.wF (Nat.le_refl _))
theorem hT3_Sm : Sm (fun i => hN h ≤ i) h (hT3 h n pg) := by
  unfold hT3 newHeatR
  have e1 : hN (alO h 1 2 (dfl 0)) = hN h + 1 := rfl
  repeat' first | exact Sm.alO | refine Sm.tr ?_ (Sm.wF (show hN h ≤ _ by omega)) | refine Sm.tr ?_ (Sm.wA (show hN h ≤ _ by rw [e1]; omega)) | refine Sm.tr ?_ Sm.alA | refine Sm.tr ?_ Sm.alO
end LDX
section LDA
variable {c : HP} {g st : Nat → Int32} {n fl s q1 q2 nx kp : Nat} {ec nu : Int32} {sc : Nat} {zs : List Z5} {bs : List B3} {ht : List Nat}
/-- what the expression of a text is, and what its steps are -/
def HtK (hh : AH) (B : Nat → Prop) (ht : List Nat) (tv : Value) (L : List Int32) : Prop := (ht = [] ∧ tv = .null ∧ L = [400, -5, -4]) ∨ ∃ aa tx V, ht = htT (tx 0) ∧ tv = .ref aa ∧ NodeR hh B 2 aa tx L V
/-- a setup has been read -/
theorem rd_all (hg : cB c = g) (hn : n ≤ 700) (hn10 : 10 ≤ n) (h140 : 140 ≤ hN c.1) (hT : ∀ i, hN c.1 ≤ i → c.2.1 i = false) (hq1 : 1 ≤ q1 ∧ q1 ≤ 9) (hq2 : q2 ≤ 20) (hz : 1 ≤ zs.length ∧ zs.length ≤ 4) (hzs : ∀ v, v ∈ zs → zoK v) (hbs : ∀ v, v ∈ bs → bdK v) {hh : AH} {B : Nat → Prop} {tv : Value} {L : List Int32} (hht : HtK hh B ht tv L) (hAt : At g n 0 (txT q1 q2 zs bs ht)) :
    ∃ (c' : HP) (t' : Nat) (X1 : AH) (q' r' st' : Nat → Int32) (pg' : Nat → Int32), (cG c' (hN c.1) t' L.length pg' ∧ Sm (fun i => hN c.1 ≤ i) c.1 c'.1 ∧ hN c'.1 ≤ hN c.1 + 15 ∧ hS c'.1 ≤ hS c.1 + 900 ∧ frT (hN c.1) c.2.1 c'.2.1 ∧ (∀ i, c'.2.1 i = true → i < hN c'.1 ∨ c.2.1 i = true) ∧ c'.2.2.2.1 = c.2.2.2.1 ∧ c'.2.2.2.2.1 = c.2.2.2.2.1 ∧ c'.2.2.2.2.2.1 = c.2.2.2.2.2.1 ∧ c'.2.2.2.2.2.2 = upf c.2.2.2.2.2.2 13 (hN c.1)) ∧
      (q' 0 = nI zs.length ∧ q' 1 = nI q1 ∧ q' 2 = nI q2) ∧ (∀ j, j < L.length → pg' j = L.getD j 0) ∧ (r' 1 = 0 ∧ ∃ qq rr, X1 = cH (zC (bC c) (hN c.1) qq a0 (hN c.1 + 9)) rr st) ∧
      (∀ d K, EvM (d + 5) 35 [.ref 13] (cH (zC (bC c) (hN c.1) (fun _ => 0) a0 (hN c.1 + 9)) (rd g n (skT g n 0) nu ec 0 sc) st) K = K (.inl (some (.int 1))) X1) ∧
      (∀ d K, EvM (d + 16) 36 [.ref 13] X1 K = K (.inl (some (.int 1))) (cH (zC c' (hN c.1) q' (bAll bs (zAll zs 0 a0)) t') r' st')) := by
  have hG0 := bC_cG h140 hT
  obtain ⟨b1, b2, b3, b4, b5, b6, b7⟩ := hG0
  have hgb : cB (bC c) = g := hg
  have hA0 : At g n (skT g n 0) (wrd 0 ++ (nmsT [q1, q2] ++ 59 :: (zosT zs ++ (bdsT bs ++ ht)))) := by
    have x := hAt.sk
    have e : sk (txT q1 q2 zs bs ht) = wrd 0 ++ (nmsT [q1, q2] ++ 59 :: (zosT zs ++ (bdsT bs ++ ht))) := by
      unfold txT hdT
      rw [List.append_assoc, List.append_assoc, sk_wrd (by decide)]
      rfl
    rw [e] at x; exact x
  obtain ⟨p1, a1, r1⟩ := c_header (q := fun _ => 0) (a := a0) (t := hN c.1 + 9) (nu := nu) (ec := ec) (hs := 0) (sc := sc) (st := st) hgb hn b1 b6 hq1 hq2 hA0
  obtain ⟨p2, i2, nu2, l2, q', ⟨z1, z2⟩, a2, c2, r2⟩ := st_zones (t := hN c.1 + 9) (ec := ec) (hs := 0) (sc := sc) (st := st) hgb hn b1 b6 zs 0 0 p1 (upf (upf (fun _ => 0) 1 (nI q1)) 2 (nI q2)) a0 (nI q2) none (by omega) rfl hzs (Nat.zero_le _) a1
  obtain ⟨p3, i3, nu3, l3, a3, c3, r3⟩ := st_bands (q := q') (t := hN c.1 + 9) (ec := ec) (hs := 0) (sc := sc) (st := st) hgb hn b1 b6 bs i2 p2 (zAll zs 0 a0) nu2 l2 hbs c2 a2
  rw [Nat.zero_add] at z1
  rw [nI_0] at r2
  have hq' : q' 0 = nI zs.length ∧ q' 1 = nI q1 ∧ q' 2 = nI q2 := ⟨z1, (z2 1 (by omega)).trans rfl, (z2 2 (by omega)).trans rfl⟩
  have nB : hN (bC c).1 = hN c.1 + 12 := hB_N
  have sB : hS (bC c).1 = hS c.1 + 100 := hB_S
  have Tb : ∀ i, (bC c).2.1 i = true → i < hN (bC c).1 ∨ c.2.1 i = true := fun i hi => by
    have hi : (c.2.1 i || decide (i = hN c.1 + 11)) = true := hi
    rw [Bool.or_eq_true, decide_eq_true_eq] at hi
    rcases hi with hi | hi
    · exact Or.inr hi
    · exact Or.inl (by omega)
  rcases hht with ⟨rfl, rfl, rfl⟩ | ⟨aa, tx, V, rfl, rfl, hnd⟩
  · refine ⟨bC c, hN c.1 + 9, _, q', rd g n p3 nu3 ec 0 sc, st, usual, ⟨⟨b1, b2, b3, b4, b5, b6, b7⟩, hB_Sm, by omega, by omega, frT_add (by omega), Tb, rfl, rfl, rfl, rfl⟩, hq', fun j hj => ?_, ⟨rfl, _, _, rfl⟩, r1, fun d K => ?_⟩
    · rcases (show j = 0 ∨ j = 1 ∨ j = 2 by simp at hj; omega) with rfl | rfl | rfl <;> rfl
    · rw [in36]
      simp only [i36_0, i36_1, nl_i, nl_r, nl_0, nl_j, nb0, nb1, nbI, orv_s, konN_v, konN_n, konN_e, true_and, and_true, and_self, if_true, if_false, ite_true, ite_false, isR_ref, true_or, or_true, isR_null, rg10, rg11, rg12, rg13, rg14, rg15, rg16, rh13, rh14, rh15, rh16, bI_T, bI_F, bI_Fb, i1z, Bool.false_eq_true]
      rw [show d + 16 = (d + 11) + 5 from rfl, r2 (d + 11) K, r3 (d + 11) K, st_end hn b1 b6 (z := zs.length) ⟨hz.1, by omega⟩ z1 c3 a3]
  · have a3' : At g n p3 (htT (tx 0) ++ []) := by
      rw [List.append_nil]
      have e : sk (htT (tx 0)) = htT (tx 0) := sk_wrd (by decide)
      rw [e] at a3
      exact a3
    obtain ⟨p4, nu4, a4, c4, r4⟩ := st_heat (l2 := l3) (q := q') (a := bAll bs (zAll zs 0 a0)) (t := hN c.1 + 9) (nu := nu3) (ec := ec) (sc := sc) (st := st) hgb hn hn10 b1 b6 (by omega) b5 b7 (Nat.le_refl 2) hnd c3 a3'
    have hLl : L.length ≤ 7 := by
      have := hnd.gx.2
      have e8 : 2 ^ (2 + 1) = 8 := by decide
      omega
    have hcG := tC_cG (pg' := apL st 0 L) (n' := L.length) ⟨b1, b2, b3, b4, b5, b6, b7⟩ (by omega)
    have hcE := tC_cE (pg := apL st 0 L) (n := L.length) b7 (by omega)
    have n3 : hN (tC (bC c) L.length (apL st 0 L)).1 = hN c.1 + 15 := by
      show hN (hT3 (bC c).1 L.length (apL st 0 L)) = _
      rw [hT3_N, nB]
    have s3 : hS (tC (bC c) L.length (apL st 0 L)).1 ≤ hS c.1 + 900 := by
      show hS (hT3 (bC c).1 L.length (apL st 0 L)) ≤ _
      rw [hT3_S, sB]
      omega
    refine ⟨tC (bC c) L.length (apL st 0 L), hN (bC c).1, _, q', rd g n p4 nu4 ec 1 L.length, apL st 0 L, apL st 0 L, ⟨hcG, hB_Sm.tr (hT3_Sm.mo (fun i hi z => by have z : hN (bC c).1 ≤ i := z; show hN c.1 ≤ i; omega)), by omega, s3, fun i hi => ?_, fun i hi => ?_, rfl, rfl, rfl, rfl⟩, hq', fun j hj => ?_, ⟨rfl, _, _, rfl⟩, r1, fun d K => ?_⟩
    · show tAdd (tAdd c.2.1 (hN c.1 + 11)) (hN (bC c).1 + 2) i = c.2.1 i
      unfold tAdd
      rw [decide_eq_false (show ¬ i = hN c.1 + 11 by omega), decide_eq_false (show ¬ i = hN (bC c).1 + 2 by omega), Bool.or_false, Bool.or_false]
    · have hi : ((bC c).2.1 i || decide (i = hN (bC c).1 + 2)) = true := hi
      rw [Bool.or_eq_true, decide_eq_true_eq] at hi
      rcases hi with hi | hi
      · rcases Tb i hi with x | x
        · exact Or.inl (by omega)
        · exact Or.inr x
      · exact Or.inl (by omega)
    · have := apL_at L st 0 j hj
      rw [Nat.zero_add] at this
      exact this
    · rw [in36]
      simp only [i36_0, i36_1, nl_i, nl_r, nl_0, nl_j, nb0, nb1, nbI, orv_s, konN_v, konN_n, konN_e, true_and, and_true, and_self, if_true, if_false, ite_true, ite_false, isR_ref, true_or, or_true, isR_null, rg10, rg11, rg12, rg13, rg14, rg15, rg16, rh13, rh14, rh15, rh16, bI_T, bI_F, bI_Fb, i1z, Bool.false_eq_true]
      have hsb : SBc (tC (bC c) L.length (apL st 0 L)).1 (tC (bC c) L.length (apL st 0 L)).2.1 (hN c.1) := hcG.1
      rw [show d + 16 = (d + 11) + 5 from rfl, r2 (d + 11) K, r3 (d + 11) K, show d + 11 + 5 = d + 16 from rfl, r4 d K, st_end hn hsb b6 (z := zs.length) ⟨hz.1, by omega⟩ z1 c4 a4]
end LDA
