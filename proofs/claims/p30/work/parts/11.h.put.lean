/-! PUT, FLUSH -/
def wdN (l : List Nat) (p : Nat) : Nat := w4 (l.getD p 0) (l.getD (p + 1) 0) (l.getD (p + 2) 0) (l.getD (p + 3) 0)
theorem pw_at {g : Nat → Int32} {f : Nat} {l : List Nat} (hc : ∀ p, l.getD p 0 < 128) (j : Nat) : pw g f (nI (wdN l f)) j = if f ≤ j ∧ j < f + 4 then nI (l.getD j 0) else g j := by
  obtain ⟨y0, y1, y2, y3⟩ := cb_w4 (hc f) (hc (f + 1)) (hc (f + 2)) (hc (f + 3))
  unfold pw
  show upd _ (f + 1 + 1 + 1) (cb (nI (wdN l f)) 0) j = _
  unfold wdN
  rw [y0, y1, y2, y3]
  unfold upd
  by_cases h0 : j = f
  · rw [if_neg (by omega), if_neg (by omega), if_neg (by omega), if_pos h0, if_pos (by omega), h0]
  · by_cases h1 : j = f + 1
    · rw [if_neg (by omega), if_neg (by omega), if_pos h1, if_pos (by omega), h1]
    · by_cases h2 : j = f + 1 + 1
      · rw [if_neg (by omega), if_pos h2, if_pos (by omega), h2]
      · by_cases h3 : j = f + 1 + 1 + 1
        · rw [if_pos h3, if_pos (by omega), h3]
        · rw [if_neg h3, if_neg h2, if_neg h1, if_neg h0, if_neg (by omega)]
def pw5 (g : Nat → Int32) (f : Nat) (w0 w1 w2 w3 w4 : Int32) : Nat → Int32 := pw (pw (pw (pw (pw g f w0) (f + 4) w1) (f + 8) w2) (f + 12) w3) (f + 16) w4
theorem pw5_at {g : Nat → Int32} {f : Nat} {l : List Nat} (hc : ∀ p, l.getD p 0 < 128) (j : Nat) : pw5 g f (nI (wdN l f)) (nI (wdN l (f + 4))) (nI (wdN l (f + 8))) (nI (wdN l (f + 12))) (nI (wdN l (f + 16))) j = if f ≤ j ∧ j < f + 20 then nI (l.getD j 0) else g j := by
  unfold pw5
  rw [pw_at hc, pw_at hc, pw_at hc, pw_at hc, pw_at hc]
  by_cases h : f ≤ j ∧ j < f + 20
  · rw [if_pos h]
    by_cases h4 : f + 16 ≤ j
    · rw [if_pos (by omega)]
    · rw [if_neg (by omega)]
      by_cases h3 : f + 12 ≤ j
      · rw [if_pos (by omega)]
      · rw [if_neg (by omega)]
        by_cases h2 : f + 8 ≤ j
        · rw [if_pos (by omega)]
        · rw [if_neg (by omega)]
          by_cases h1 : f + 4 ≤ j
          · rw [if_pos (by omega)]
          · rw [if_neg (by omega), if_pos (by omega)]
  · rw [if_neg h, if_neg (by omega), if_neg (by omega), if_neg (by omega), if_neg (by omega), if_neg (by omega)]
theorem wd_0 {l : List Nat} {p : Nat} (h : l.length ≤ p) : wdN l p = 0 := by
  have e : ∀ k, l.getD (p + k) 0 = 0 := fun k => by
    rw [List.getD_eq_getElem?_getD, List.getElem?_eq_none (by omega)]
    rfl
  unfold wdN
  rw [e 1, e 2, e 3, show l.getD p 0 = 0 from e 0]
  rfl
theorem getD_app {l : List Nat} {c p : Nat} : (l ++ [c]).getD p 0 = if p = l.length then c else l.getD p 0 := by
  rw [List.getD_eq_getElem?_getD, List.getD_eq_getElem?_getD]
  by_cases h : p < l.length
  · rw [List.getElem?_append_left h, if_neg (by omega)]
  · by_cases h2 : p = l.length
    · rw [if_pos h2, h2, List.getElem?_append_right (Nat.le_refl _), Nat.sub_self]
      rfl
    · rw [if_neg h2, List.getElem?_eq_none (by rw [List.length_append]; show l.length + 1 ≤ p; omega), List.getElem?_eq_none (by omega)]
/-- the law's buffer at u holds the text l, of which whole twenties are handed on -/
def BUF (g : AH) (u : Nat) (S A : Nat → Nat → Int32) (l : List Nat) : Prop := ((hk g u = 10 ∧ hl g u = 8) ∧ hA g u 0 = nI l.length ∧ ∀ i, i < 5 → hA g u (1 + i) = nI (wdN l (20 * (l.length / 20) + 4 * i))) ∧ S 13 1 = nI (20 * (l.length / 20)) ∧ (∀ j, j < 20 * (l.length / 20) → A 14 j = nI (l.getD j 0)) ∧ (∀ p, l.getD p 0 < 128)
/-- what writing into the buffer u leaves -/
def WR (u : Nat) (g g' : AH) (S S' A A' : Nat → Nat → Int32) : Prop := (Sm (fun i => i = u ∨ own i = true) g g' ∧ hN g' = hN g ∧ hS g' = hS g) ∧ (∀ i, ¬ i = 13 → S' i = S i) ∧ (∀ k, ¬ k = 1 → S' 13 k = S 13 k) ∧ ∀ i, ¬ i = 14 → A' i = A i
theorem WR.rf {u : Nat} {g : AH} {S A : Nat → Nat → Int32} : WR u g g S S A A := ⟨⟨Sm.rf, rfl, rfl⟩, fun _ _ => rfl, fun _ _ => rfl, fun _ _ => rfl⟩
theorem WR.tr {u : Nat} {g g1 g2 : AH} {S S1 S2 A A1 A2 : Nat → Nat → Int32} (x : WR u g g1 S S1 A A1) (y : WR u g1 g2 S1 S2 A1 A2) : WR u g g2 S S2 A A2 :=
  ⟨⟨x.1.1.tr y.1.1, y.1.2.1.trans x.1.2.1, y.1.2.2.trans x.1.2.2⟩, fun i hi => (y.2.1 i hi).trans (x.2.1 i hi), fun k h => (y.2.2.1 k h).trans (x.2.2.1 k h), fun i hi => (y.2.2.2 i hi).trans (x.2.2.2 i hi)⟩
section PUT
variable {d u f c : Nat} {g : AH} {T : Nat → Bool} {U S A : Nat → Nat → Int32} {J : Nat → Nat → Int64} {G : Nat → Nat} {K : AO → AH → Prop} {l : List Nat}
def z5 (f : Nat → Int32) : Nat → Int32 := upd (upd (upd (upd (upd f 1 0) 2 0) 3 0) 4 0) 5 0
theorem z5_at {f : Nat → Int32} {i : Nat} (h : i < 5) : z5 f (1 + i) = 0 := by
  unfold z5 upd
  match i, h with
  | 0, _ => rfl
  | 1, _ => rfl
  | 2, _ => rfl
  | 3, _ => rfl
  | 4, _ => rfl
theorem z5_0 {f : Nat → Int32} : z5 f 0 = f 0 := rfl
theorem s_flush (x : FX g T U S A J G) (hu : ¬ CW T u) (hku : hk g u = 10) (hlu : hl g u = 8) (hf : S 13 1 = nI f) (h4 : f + 20 ≤ 700) : EvM (d + 2) 119 [.ref 0, .ref u] g K = K (.inl none) (wA (MH g T U (up2 S 13 1 (nI (f + 20))) (upf A 14 (pw5 (A 14) f (hA g u 1) (hA g u 2) (hA g u 3) (hA g u 4) (hA g u 5))) J G) u (z5 (hA g u))) := by
  have e := x.1
  have o : own u = false := Bool.eq_false_iff.mpr (fun z => hu (Or.inl z))
  have t : T u = false := Bool.eq_false_iff.mpr (fun z => hu (Or.inr z))
  have k2 : ∀ S' A', hk (MH g T U S' A' J G) u = 10 := fun _ _ => (mh_kn o).trans hku
  have l2 : ∀ S' A', hl (MH g T U S' A' J G) u = 8 := fun _ _ => (mh_ln o).trans hlu
  have a2 : ∀ S' A', hA (MH g T U S' A' J G) u = hA g u := fun _ _ => mh_An o t
  have k0 : hk g 0 = 6 := by rw [e]; exact k_0
  have ap := fun w0 w1 w2 w3 w4 K => s_append (d := d) (h := g) (T := T) (U := U) (S := S) (A := A) (J := J) (G := G) (w0 := w0) (w1 := w1) (w2 := w2) (w3 := w3) (w4 := w4) (K := K) hf h4
  rw [← e] at ap
  have q : ∀ k : Nat, k < 6 → ((6 : Int32) ≤ nI k) = False := fun k hk => eq_false (fun y => by
    have := (nI_leI (a := 6) (b := k) (by omega) (by omega)).mp y
    omega)
  have ib : ∀ k, k < 6 → inb (nI k) 8 = True := fun k h => inbT (by omega) (by omega)
  have zz : ∀ k, k < 6 → Int32.toNatClampNeg (nI k) = k := fun k h => zn_nI (by omega)
  have q6 : ((6 : Int32) ≤ nI 6) = True := eq_true (by decide)
  have q1 := q 1 (by omega)
  have q2 := q 2 (by omega)
  have q3 := q 3 (by omega)
  have q4 := q 4 (by omega)
  have q5 := q 5 (by omega)
  have ib1 := ib 1 (by omega)
  have ib2 := ib 2 (by omega)
  have ib3 := ib 3 (by omega)
  have ib4 := ib 4 (by omega)
  have ib5 := ib 5 (by omega)
  have zz1 := zz 1 (by omega)
  have zz2 := zz 2 (by omega)
  have zz3 := zz 3 (by omega)
  have zz4 := zz 4 (by omega)
  have zz5 := zz 5 (by omega)
  have j1 : (1 : Int32) = nI 1 := rfl
  have j2 : (2 : Int32) = nI 2 := rfl
  have j3 : (3 : Int32) = nI 3 := rfl
  have j4 : (4 : Int32) = nI 4 := rfl
  have j5 : (5 : Int32) = nI 5 := rfl
  simp only [i119_0, i119_1, i119_2, i119_3, i119_4, i119_5, i119_6, i119_7, i119_8, i119_9, i119_10, i119_11, i119_12, i119_13, i119_14, i119_15, i119_16, i119_19, i119_20, i119_21, in119, nl_i, nl_r, nl_0, nl_j, nb0, nb1, nbI, orv_s, konN_v, konN_n, konN_e, true_and, and_true, and_self, if_true, if_false, ite_true, ite_false, isR_ref, true_or, or_true, isR_null, rg10, rg11, rg12, rg13, rg14, rg15, rg16, rh13, rh14, rh15, rh16, bI_T, bI_F, bI_Fb, i1z, Bool.false_eq_true, k0, hku, hlu, j1, j2, j3, j4, j5, ib1, ib2, ib3, ib4, ib5, zz1, zz2, zz3, zz4, zz5, ap]
  have hh := @i119_22
  rw [hh]
  simp only [i119_23, i119_25, i119_28, i119_29, i119_30, i119_31, i119_32, i119_35, nl_i, nl_r, nl_0, nl_j, nb0, nb1, nbI, orv_s, konN_v, konN_n, konN_e, true_and, and_true, and_self, if_true, if_false, ite_true, ite_false, isR_ref, true_or, or_true, isR_null, rg10, rg11, rg12, rg13, rg14, rg15, rg16, rh13, rh14, rh15, rh16, bI_T, bI_F, bI_Fb, i1z, Bool.false_eq_true, q1, k2, l2, a2, ib1, zz1, j1, nI_add, Nat.reduceAdd]
  rw [hh]
  simp only [i119_23, i119_25, i119_28, i119_29, i119_30, i119_31, i119_32, i119_35, nl_i, nl_r, nl_0, nl_j, nb0, nb1, nbI, orv_s, konN_v, konN_n, konN_e, true_and, and_true, and_self, if_true, if_false, ite_true, ite_false, isR_ref, true_or, or_true, isR_null, rg10, rg11, rg12, rg13, rg14, rg15, rg16, rh13, rh14, rh15, rh16, bI_T, bI_F, bI_Fb, i1z, Bool.false_eq_true, q2, k_wA, l_wA, wA_eq, wA_wA, k2, l2, a2, ib2, zz2, j1, nI_add, Nat.reduceAdd]
  rw [hh]
  simp only [i119_23, i119_25, i119_28, i119_29, i119_30, i119_31, i119_32, i119_35, nl_i, nl_r, nl_0, nl_j, nb0, nb1, nbI, orv_s, konN_v, konN_n, konN_e, true_and, and_true, and_self, if_true, if_false, ite_true, ite_false, isR_ref, true_or, or_true, isR_null, rg10, rg11, rg12, rg13, rg14, rg15, rg16, rh13, rh14, rh15, rh16, bI_T, bI_F, bI_Fb, i1z, Bool.false_eq_true, q3, k_wA, l_wA, wA_eq, wA_wA, k2, l2, a2, ib3, zz3, j1, nI_add, Nat.reduceAdd]
  rw [hh]
  simp only [i119_23, i119_25, i119_28, i119_29, i119_30, i119_31, i119_32, i119_35, nl_i, nl_r, nl_0, nl_j, nb0, nb1, nbI, orv_s, konN_v, konN_n, konN_e, true_and, and_true, and_self, if_true, if_false, ite_true, ite_false, isR_ref, true_or, or_true, isR_null, rg10, rg11, rg12, rg13, rg14, rg15, rg16, rh13, rh14, rh15, rh16, bI_T, bI_F, bI_Fb, i1z, Bool.false_eq_true, q4, k_wA, l_wA, wA_eq, wA_wA, k2, l2, a2, ib4, zz4, j1, nI_add, Nat.reduceAdd]
  rw [hh]
  simp only [i119_23, i119_25, i119_28, i119_29, i119_30, i119_31, i119_32, i119_35, nl_i, nl_r, nl_0, nl_j, nb0, nb1, nbI, orv_s, konN_v, konN_n, konN_e, true_and, and_true, and_self, if_true, if_false, ite_true, ite_false, isR_ref, true_or, or_true, isR_null, rg10, rg11, rg12, rg13, rg14, rg15, rg16, rh13, rh14, rh15, rh16, bI_T, bI_F, bI_Fb, i1z, Bool.false_eq_true, q5, k_wA, l_wA, wA_eq, wA_wA, k2, l2, a2, ib5, zz5, j1, nI_add, Nat.reduceAdd]
  rw [hh]
  simp only [i119_23, i119_25, i119_28, i119_29, i119_30, i119_31, i119_32, i119_35, i119_38, nl_i, nl_r, nl_0, nl_j, nb0, nb1, nbI, orv_s, konN_v, konN_n, konN_e, true_and, and_true, and_self, if_true, if_false, ite_true, ite_false, isR_ref, true_or, or_true, isR_null, rg10, rg11, rg12, rg13, rg14, rg15, rg16, rh13, rh14, rh15, rh16, bI_T, bI_F, bI_Fb, i1z, Bool.false_eq_true, q6]
  rfl
theorem r20 {m : Nat} (h : m < 65536) : nI m - nI m / 20 * 20 = nI (m % 20) := rem_nI (m := 20) h (by omega) (by omega)
theorem r4 {m : Nat} (h : m < 65536) : nI m - nI m / 4 * 4 = nI (m % 4) := rem_nI (m := 4) h (by omega) (by omega)
theorem dv_nI {v m : Nat} (hv : v < 2 ^ 31) (hm : 1 ≤ m) (hm2 : m < 2 ^ 31) : nI v / nI m = nI (v / m) := by
  refine Int32.toInt_inj.mp ?_
  have x := (i32_div (x := nI v) (y := nI m) (by rw [nI_toInt (by omega)]; omega) (by rw [nI_toInt hm2]; omega)).1
  have : v / m ≤ v := Nat.div_le_self _ _
  rw [x, nI_toInt (by omega), nI_toInt hm2, nI_toInt (by omega)]
  rfl
theorem shf : ∀ j, j < 4 → (24 : Int32) - 8 * nI j = nI (24 - 8 * j) := by decide
/-- one more character in its word -/
theorem wd_put {l : List Nat} {c : Nat} (hc : c < 128) (hl : ∀ p, l.getD p 0 < 128) : nI (wdN l (20 * (l.length / 20) + 4 * (l.length % 20 / 4))) ||| (nI c <<< ((24 - 8 * nI (l.length % 4)) &&& 31)) = nI (wdN (l ++ [c]) (20 * (l.length / 20) + 4 * (l.length % 20 / 4))) := by
  obtain ⟨p, hp⟩ : ∃ p, p = 20 * (l.length / 20) + 4 * (l.length % 20 / 4) := ⟨_, rfl⟩
  obtain ⟨j, hj⟩ : ∃ j, j = l.length % 4 := ⟨_, rfl⟩
  have e : p + j = l.length := by omega
  rw [← hp, ← hj]
  have n0 : ∀ k, j ≤ k → l.getD (p + k) 0 = 0 := fun k hk => by
    rw [List.getD_eq_getElem?_getD, List.getElem?_eq_none (by omega)]
    rfl
  have gn : ∀ k, ¬ k = j → (l ++ [c]).getD (p + k) 0 = l.getD (p + k) 0 := fun k hk => by
    rw [getD_app, if_neg (by omega)]
  have ge : (l ++ [c]).getD (p + j) 0 = c := by rw [getD_app, if_pos e]
  have j4 : j < 4 := by omega
  have h0 := hl p
  have h1 := hl (p + 1)
  have h2 := hl (p + 2)
  unfold wdN w4
  match j, j4, n0, gn, ge with
  | 0, _, n0, gn, ge =>
    have e0 : l.getD p 0 = 0 := n0 0 (by omega)
    have ge : (l ++ [c]).getD p 0 = c := ge
    rw [gn 1 (by omega), gn 2 (by omega), gn 3 (by omega), ge, e0, n0 1 (by omega), n0 2 (by omega), n0 3 (by omega)]
    rw [show (24 : Int32) - 8 * nI 0 = 24 by decide, sh_24 c hc, or_nI, show 0 * 16777216 + 0 * 65536 + 0 * 256 + 0 = 0 by decide, Nat.zero_or]
    exact congrArg nI (by omega)
  | 1, _, n0, gn, ge =>
    have gn0 : (l ++ [c]).getD p 0 = l.getD p 0 := gn 0 (by omega)
    rw [gn0, gn 2 (by omega), gn 3 (by omega), ge, n0 1 (by omega), n0 2 (by omega), n0 3 (by omega)]
    rw [show (24 : Int32) - 8 * nI 1 = 16 by decide, sh_16 c hc, show l.getD p 0 * 16777216 + 0 * 65536 + 0 * 256 + 0 = l.getD p 0 * 2 ^ 24 by omega, or_add (by omega)]
    exact congrArg nI (by omega)
  | 2, _, n0, gn, ge =>
    have gn0 : (l ++ [c]).getD p 0 = l.getD p 0 := gn 0 (by omega)
    rw [gn0, gn 1 (by omega), gn 3 (by omega), ge, n0 2 (by omega), n0 3 (by omega), show l.getD p 0 * 16777216 + l.getD (p + 1) 0 * 65536 + 0 * 256 + 0 = (l.getD p 0 * 2 ^ 8 + l.getD (p + 1) 0) * 2 ^ 16 by omega]
    rw [show (24 : Int32) - 8 * nI 2 = 8 by decide, sh_8 c hc, or_add (by omega)]
    exact congrArg nI (by omega)
  | 3, _, n0, gn, ge =>
    have gn0 : (l ++ [c]).getD p 0 = l.getD p 0 := gn 0 (by omega)
    rw [gn0, gn 1 (by omega), gn 2 (by omega), ge, n0 3 (by omega), show l.getD p 0 * 16777216 + l.getD (p + 1) 0 * 65536 + l.getD (p + 2) 0 * 256 + 0 = (l.getD p 0 * 2 ^ 16 + l.getD (p + 1) 0 * 2 ^ 8 + l.getD (p + 2) 0) * 2 ^ 8 by omega]
    rw [show (24 : Int32) - 8 * nI 3 = 0 by decide, sh_0 c hc, or_add (by omega)]
    exact congrArg nI (by omega)
/-- one more character in the buffer's array -/
def pt (f : Nat → Int32) (l : List Nat) (c : Nat) : Nat → Int32 := upd (upd f (l.length % 20 / 4 + 1) (nI (wdN (l ++ [c]) (20 * (l.length / 20) + 4 * (l.length % 20 / 4))))) 0 (nI (l.length + 1))
theorem wd_ne {l : List Nat} {c i : Nat} (hi : ¬ i = l.length % 20 / 4) (h5 : i < 5) : wdN (l ++ [c]) (20 * (l.length / 20) + 4 * i) = wdN l (20 * (l.length / 20) + 4 * i) := by
  unfold wdN
  rw [getD_app, getD_app, getD_app, getD_app, if_neg (by omega), if_neg (by omega), if_neg (by omega), if_neg (by omega)]
theorem pt_at {f : Nat → Int32} {l : List Nat} {c i : Nat} (hf : ∀ i, i < 5 → f (1 + i) = nI (wdN l (20 * (l.length / 20) + 4 * i))) (h : i < 5) : pt f l c (1 + i) = nI (wdN (l ++ [c]) (20 * (l.length / 20) + 4 * i)) := by
  unfold pt
  rw [upd_n (by omega)]
  by_cases e : i = l.length % 20 / 4
  · rw [← e, Nat.add_comm, upd_e]
  · rw [upd_n (by omega), hf i h, wd_ne e h]
theorem s_put (x : FX g T U S A J G) (hu : ¬ CW T u ∧ u < hN g) (hb : BUF g u S A l) (hc : c < 128) (hl6 : l.length < 660) : ∃ g' S' A', FX g' T U S' A' J G ∧ BUF g' u S' A' (l ++ [c]) ∧ WR u g g' S S' A A' ∧ ∀ d K, EvM (d + 3) 118 [.ref 0, .ref u, .int (nI c)] g K = K (.inl none) g' := by
  obtain ⟨⟨ku, lu⟩, u0, u1⟩ := hb.1
  obtain ⟨b1, b2, b3⟩ := hb.2
  have hlen : (l ++ [c]).length = l.length + 1 := List.length_append
  have chs : ∀ p, (l ++ [c]).getD p 0 < 128 := fun p => by
    rw [getD_app]
    split
    · exact hc
    · exact b3 p
  obtain ⟨g1, hg1⟩ : ∃ y, y = wA g u (pt (hA g u) l c) := ⟨_, rfl⟩
  have sg1 : Sm (fun i => i = u) g g1 := by rw [hg1]; exact Sm.wA rfl
  have x1 : FX g1 T U S A J G := x.law sg1 (fun i hi z => hu.1 (by rw [← z]; exact hi))
  have k1 : hk g1 u = 10 := by rw [hg1]; exact ku
  have l1 : hl g1 u = 8 := by rw [hg1]; exact lu
  have a1 : hA g1 u = pt (hA g u) l c := by rw [hg1]; exact wA_eq
  have a1' : ∀ i, i < 5 → hA g1 u (1 + i) = nI (wdN (l ++ [c]) (20 * (l.length / 20) + 4 * i)) := fun i h => by rw [a1]; exact pt_at u1 h
  have m65 : l.length < 65536 := by omega
  have dv : nI (l.length % 20) / 4 = nI (l.length % 20 / 4) := dv_nI (m := 4) (by omega) (by omega) (by omega)
  have ad : (1 : Int32) + nI (l.length % 20 / 4) = nI (l.length % 20 / 4 + 1) := (nI_add 1 _).trans (congrArg nI (Nat.add_comm _ _))
  have ib := inbT (show l.length % 20 / 4 + 1 < 8 by omega) (by omega)
  have zz := zn_nI (show l.length % 20 / 4 + 1 < 2 ^ 31 by omega)
  have u1' : hA g u (l.length % 20 / 4 + 1) = nI (wdN l (20 * (l.length / 20) + 4 * (l.length % 20 / 4))) := by rw [Nat.add_comm]; exact u1 _ (by omega)
  have wp := wd_put hc b3
  have iz0 : inb (0 : Int32) 8 = True := eq_true (by decide)
  have w0 : ∀ v, upd (hA g u) (l.length % 20 / 4 + 1) v 0 = nI l.length := fun v => (upd_n (by omega)).trans u0
  have e1 : (nI l.length + 1 : Int32) = nI (l.length + 1) := nI_add _ 1
  have gfold : wA g u (upd (upd (hA g u) (l.length % 20 / 4 + 1) (nI (wdN (l ++ [c]) (20 * (l.length / 20) + 4 * (l.length % 20 / 4))))) 0 (nI (l.length + 1))) = g1 := hg1.symm
  have ev0 : ∀ d K, EvM (d + 3) 118 [.ref 0, .ref u, .int (nI c)] g K = if (l.length + 1) % 20 = 0 then EvM (d + 2) 119 [.ref 0, .ref u] g1 (konN (d + 3) 118 49 [some (.ref 0), some (.ref u), some (.int (nI c))] [] K) else K (.inl none) g1 := fun d K => by
    have c1 : nI (l.length + 1) - nI (l.length + 1) / 20 * 20 = nI ((l.length + 1) % 20) := r20 (by omega)
    have up0 : ∀ (f : Nat → Int32) v, upd f 0 v 0 = v := fun f v => rfl
    have n20 : ((20 : Int32) = 0) = False := eq_false (by decide)
    have n4 : ((4 : Int32) = 0) = False := eq_false (by decide)
    have hh : hA g1 u 0 = nI (l.length + 1) := by rw [a1]; rfl
    by_cases hz : (l.length + 1) % 20 = 0
    · rw [if_pos hz]
      simp only [in118, i118_0, i118_1, i118_2, i118_3, i118_4, i118_5, i118_7, i118_8, i118_9, i118_10, i118_11, i118_12, i118_13, i118_14, i118_16, i118_18, i118_19, i118_20, i118_21, i118_22, i118_23, i118_24, i118_25, i118_26, i118_27, i118_28, i118_29, i118_30, i118_31, i118_32, i118_33, i118_34, i118_35, i118_36, i118_37, i118_38, i118_40, i118_41, i118_44, i118_45, i118_46, i118_49, nl_i, nl_r, nl_0, nl_j, nb0, nb1, nbI, orv_s, konN_v, konN_n, konN_e, true_and, and_true, and_self, if_true, if_false, ite_true, ite_false, isR_ref, true_or, or_true, isR_null, rg10, rg11, rg12, rg13, rg14, rg15, rg16, rh13, rh14, rh15, rh16, bI_T, bI_F, bI_Fb, i1z, Bool.false_eq_true, ku, lu, u0, r20 m65, r4 m65, dv, ad, ib, zz, u1', wp, k_wA, l_wA, wA_eq, wA_wA, iz0, w0, e1, zn_0, up0, c1, hz, gfold, n20, n4, k1, l1, hh, not_false_eq_true, nI_0]
    · rw [if_neg hz]
      have nz := nI_nz0 hz (by omega)
      simp only [in118, i118_0, i118_1, i118_2, i118_3, i118_4, i118_5, i118_7, i118_8, i118_9, i118_10, i118_11, i118_12, i118_13, i118_14, i118_16, i118_18, i118_19, i118_20, i118_21, i118_22, i118_23, i118_24, i118_25, i118_26, i118_27, i118_28, i118_29, i118_30, i118_31, i118_32, i118_33, i118_34, i118_35, i118_36, i118_37, i118_38, i118_40, i118_41, i118_44, i118_45, i118_46, i118_49, nl_i, nl_r, nl_0, nl_j, nb0, nb1, nbI, orv_s, konN_v, konN_n, konN_e, true_and, and_true, and_self, if_true, if_false, ite_true, ite_false, isR_ref, true_or, or_true, isR_null, rg10, rg11, rg12, rg13, rg14, rg15, rg16, rh13, rh14, rh15, rh16, bI_T, bI_F, bI_Fb, i1z, Bool.false_eq_true, ku, lu, u0, r20 m65, r4 m65, dv, ad, ib, zz, u1', wp, k_wA, l_wA, wA_eq, wA_wA, iz0, w0, e1, zn_0, up0, c1, nz, gfold, not_false_eq_true, n20, n4, k1, l1, hh]
  by_cases hz : (l.length + 1) % 20 = 0
  · have hq : (l ++ [c]).length / 20 = l.length / 20 + 1 := by rw [hlen]; omega
    have fl := fun d K => s_flush (d := d) (K := K) x1 hu.1 k1 l1 b1 (by omega)
    obtain ⟨g', hg'⟩ : ∃ y, y = wA (MH g1 T U (up2 S 13 1 (nI (20 * (l.length / 20) + 20))) (upf A 14 (pw5 (A 14) (20 * (l.length / 20)) (hA g1 u 1) (hA g1 u 2) (hA g1 u 3) (hA g1 u 4) (hA g1 u 5))) J G) u (z5 (hA g1 u)) := ⟨_, rfl⟩
    rw [← hg'] at fl
    have o : own u = false := Bool.eq_false_iff.mpr (fun z => hu.1 (Or.inl z))
    obtain ⟨s2, x2⟩ := x1.cls (U' := U) (S' := up2 S 13 1 (nI (20 * (l.length / 20) + 20))) (A' := upf A 14 (pw5 (A 14) (20 * (l.length / 20)) (hA g1 u 1) (hA g1 u 2) (hA g1 u 3) (hA g1 u 4) (hA g1 u 5))) (J' := J) (G' := G)
    have s2' : Sm (fun i => i = u ∨ own i = true) g1 (MH g1 T U (up2 S 13 1 (nI (20 * (l.length / 20) + 20))) (upf A 14 (pw5 (A 14) (20 * (l.length / 20)) (hA g1 u 1) (hA g1 u 2) (hA g1 u 3) (hA g1 u 4) (hA g1 u 5))) J G) := by
      refine ⟨s2.1, s2.2.1, s2.2.2.1, s2.2.2.2.1, fun i hi hw => ?_⟩
      by_cases ht : T i = true
      · have oi : own i = false := Bool.eq_false_iff.mpr (fun z => hw (Or.inr z))
        have e := x1.1
        refine ⟨fun k => ?_, ?_, ?_, ?_⟩
        · exact mh_Fn oi
        · have z := congrArg (fun y : AH => hA y i) e
          have z : hA g1 i = hA (MH g1 T U S A J G) i := z
          rw [z]
          show (if own i = true then _ else if T i = true then U i else _) = (if own i = true then _ else if T i = true then U i else _)
          rw [oi, ht]
          rfl
        · show (if own i = true then J i else g1.2.2.2.2.2.1 i) = g1.2.2.2.2.2.1 i
          rw [oi]
          rfl
        · show (if own i = true then oR1 i else g1.2.2.2.2.2.2.1 i) = g1.2.2.2.2.2.2.1 i
          rw [oi]
          rfl
      · exact s2.2.2.2.2 i hi (fun z => by
          rcases z with z | z
          · exact hw (Or.inr z)
          · exact ht z)
    have s3 : Sm (fun i => i = u ∨ own i = true) g1 g' := by
      rw [hg']
      exact s2'.tr (Sm.wA (Or.inl rfl))
    have h1 : hA g1 u 1 = nI (wdN (l ++ [c]) (20 * (l.length / 20))) := a1' 0 (by omega)
    have h2 : hA g1 u 2 = nI (wdN (l ++ [c]) (20 * (l.length / 20) + 4)) := a1' 1 (by omega)
    have h3 : hA g1 u 3 = nI (wdN (l ++ [c]) (20 * (l.length / 20) + 8)) := a1' 2 (by omega)
    have h4 : hA g1 u 4 = nI (wdN (l ++ [c]) (20 * (l.length / 20) + 12)) := a1' 3 (by omega)
    have h5 : hA g1 u 5 = nI (wdN (l ++ [c]) (20 * (l.length / 20) + 16)) := a1' 4 (by omega)
    refine ⟨g', up2 S 13 1 (nI (20 * (l.length / 20) + 20)), upf A 14 (pw5 (A 14) (20 * (l.length / 20)) (hA g1 u 1) (hA g1 u 2) (hA g1 u 3) (hA g1 u 4) (hA g1 u 5)), ?_, ⟨⟨⟨?_, ?_⟩, ?_, fun i h => ?_⟩, ?_, fun j hj => ?_, chs⟩, ⟨⟨(sg1.mo (fun i _ z => Or.inl z)).tr s3, ?_, ?_⟩, fun i hi => ?_, fun k hk => ?_, fun i hi => ?_⟩, fun d K => ?_⟩
    · rw [hg']
      exact x2.law (W := fun i => i = u) (Sm.wA rfl) (fun i hi z => hu.1 (by rw [← z]; exact hi))
    · rw [hg', k_wA, mh_kn o]
      exact k1
    · rw [hg', l_wA, mh_ln o]
      exact l1
    · rw [hg', wA_eq, z5_0, a1, hlen]
      rfl
    · rw [hg', wA_eq, z5_at h, wd_0 (by rw [hlen]; omega)]
      rfl
    · rw [hq]
      exact up2_same
    · rw [hq] at hj
      show upf A 14 _ 14 j = _
      rw [upf_same, h1, h2, h3, h4, h5, pw5_at chs]
      by_cases e : 20 * (l.length / 20) ≤ j
      · rw [if_pos (by omega)]
      · rw [if_neg (by omega), b2 j (by omega), getD_app, if_neg (by omega)]
    · rw [hg', hg1]
      rfl
    · rw [hg', hg1]
      rfl
    · funext k
      exact up2_ne (fun z => hi z.1)
    · exact up2_ne (fun z => hk z.2)
    · exact upf_ne _ _ hi
    · rw [ev0, if_pos hz, fl, konN_n]
      simp only [i118_49, nl_i, nl_r, nl_0, nl_j, nb0, nb1, nbI, orv_s, konN_v, konN_n, konN_e, true_and, and_true, and_self, if_true, if_false, ite_true, ite_false, isR_ref, true_or, or_true, isR_null, rg10, rg11, rg12, rg13, rg14, rg15, rg16, rh13, rh14, rh15, rh16, bI_T, bI_F, bI_Fb, i1z, Bool.false_eq_true]
  · have hq : (l ++ [c]).length / 20 = l.length / 20 := by rw [hlen]; omega
    refine ⟨g1, S, A, x1, ⟨⟨⟨k1, l1⟩, ?_, fun i h => ?_⟩, ?_, fun j hj => ?_, chs⟩, ⟨⟨sg1.mo (fun i _ z => Or.inl z), ?_, ?_⟩, fun _ _ => rfl, fun _ _ => rfl, fun _ _ => rfl⟩, fun d K => ?_⟩
    · rw [a1, hlen]; rfl
    · rw [hq]; exact a1' i h
    · rw [hq]; exact b1
    · rw [hq] at hj
      rw [b2 j hj, getD_app, if_neg (by omega)]
    · rw [hg1]; rfl
    · rw [hg1]; rfl
    · rw [ev0, if_neg hz]
end PUT
