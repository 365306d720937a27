/-! READING: the statements of the law's text, one after another -/
abbrev Z5 : Type := Nat × Nat × Nat × Nat × Nat
abbrev B3 : Type := Nat × Nat × Nat
def hdT (q1 q2 : Nat) : List Nat := wrd 0 ++ (nmsT [q1, q2] ++ [59])
def zoT (v : Z5) : List Nat := 32 :: (wrd 1 ++ (nmsT [v.1, v.2.1, v.2.2.1, v.2.2.2.1, v.2.2.2.2] ++ [59]))
def bdT (v : B3) : List Nat := wrd 2 ++ (nmsT [v.1, v.2.1, v.2.2] ++ [59])
def htT (tx : List Nat) : List Nat := wrd 3 ++ 32 :: (tx ++ [59])
def zoK (v : Z5) : Prop := (100 ≤ v.1 ∧ v.1 ≤ 900) ∧ (1 ≤ v.2.1 ∧ v.2.1 ≤ 99) ∧ (1 ≤ v.2.2.1 ∧ v.2.2.1 ≤ 999) ∧ (20 ≤ v.2.2.2.1 ∧ v.2.2.2.1 ≤ 900) ∧ (v.2.2.2.1 ≤ v.2.2.2.2 ∧ v.2.2.2.2 ≤ 900)
def bdK (v : B3) : Prop := (2 ≤ v.1 ∧ v.1 ≤ 19) ∧ (20 ≤ v.2.1 ∧ v.2.1 ≤ 900) ∧ (v.2.1 ≤ v.2.2 ∧ v.2.2 ≤ 900)
def zosT : List Z5 → List Nat
  | [] => []
  | v :: vs => zoT v ++ zosT vs
def bdsT : List B3 → List Nat
  | [] => []
  | v :: vs => bdT v ++ bdsT vs
def zAll : List Z5 → Nat → (Nat → Nat → Int32) → Nat → Nat → Int32
  | [], _, a => a
  | v :: vs, z, a => zAll vs (z + 1) (zW a z (nI v.1) (nI v.2.1) (nI v.2.2.1) (nI v.2.2.2.1) (nI v.2.2.2.2))
def bAll : List B3 → (Nat → Nat → Int32) → Nat → Nat → Int32
  | [], a => a
  | v :: vs, a => bAll vs (bW a v.1 (nI v.2.1) (nI v.2.2))
theorem sk_len : ∀ l : List Nat, (sk l).length ≤ l.length
  | [] => Nat.le_refl _
  | x :: l => by
    show (if x = 32 then sk l else x :: l).length ≤ _
    split
    · exact Nat.le_succ_of_le (sk_len l)
    · exact Nat.le_refl _
section RDS
variable {c : HP} {g st : Nat → Int32} {n p i s t z sc d : Nat} {q : Nat → Int32} {a : Nat → Nat → Int32} {ec hs nu : Int32} {L : List Int32} {K : AO → AH → Prop} {rest : List Nat} {l2 : Option Value}
theorem st_head (hn : n ≤ 700) (hi : i < n) (hk : ¬ kdT g n p = 0) : Ev d 36 2 [some (.ref 13), some (.int (nI i)), l2] [] (cH c (rd g n p nu ec hs sc) st) K = Ev d 36 17 [some (.ref 13), some (.int (nI i)), l2] [] (cH c (rd g n p nu ec hs sc) st) K := by
  rw [i36_2]
  simp only [i36_3, i36_4, i36_7, i36_10, i36_11, i36_14, nl_i, nl_r, nl_0, nl_j, nb0, nb1, nbI, orv_s, konN_v, konN_n, konN_e, true_and, and_true, and_self, if_true, if_false, ite_true, ite_false, isR_ref, true_or, or_true, isR_null, rg10, rg11, rg12, rg13, rg14, rg15, rg16, rh13, rh14, rh15, rh16, bI_T, bI_F, bI_Fb, i1z, Bool.false_eq_true, c_k, c_f2, c_f3, rd_2, rd_3, nI_leI (show n < 2 ^ 31 by omega) (show i < 2 ^ 31 by omega), show ¬ n ≤ i by omega, hk]
theorem st_tail (hg : cB c = g) (hn : n ≤ 700) (hA : At g n p (59 :: rest)) : At g n (nxT g n p) (sk rest) ∧ ∀ d K, Ev (d + 3) 36 79 [some (.ref 13), some (.int (nI i)), some (.int 1)] [] (cH c (rd g n p nu ec hs sc) st) K = Ev (d + 3) 36 2 [some (.ref 13), some (.int (nI (i + 1))), some (.int 1)] [] (cH c (rd g n (nxT g n p) nu ec hs sc) st) K := by
  obtain ⟨-, t1, t2⟩ := tok_sign hA (by decide) (by decide)
  have s59 : sgB g n p 59 = true := (t1 59 (by decide)).trans (decide_eq_true rfl)
  refine ⟨t2, fun d K => ?_⟩
  have ts := fun K => c_takeSign (d := d) (nu := nu) (ec := ec) (hs := hs) (sc := sc) (st := st) (K := K) hg hn hA.le s59
  simp only [i36_79, i36_80, i36_83, i36_84, i36_86, i36_89, i36_92, i36_93, i36_94, i36_97, nl_i, nl_r, nl_0, nl_j, nb0, nb1, nbI, orv_s, konN_v, konN_n, konN_e, true_and, and_true, and_self, if_true, if_false, ite_true, ite_false, isR_ref, true_or, or_true, isR_null, rg10, rg11, rg12, rg13, rg14, rg15, rg16, rh13, rh14, rh15, rh16, bI_T, bI_F, bI_Fb, i1z, Bool.false_eq_true, c_k, ts, ← nI_succ]
theorem st_zone (hg : cB c = g) (hn : n ≤ 700) (hs' : SBc c.1 c.2.1 s) (hG : c.2.2.2.2.2.2 13 = s) (hz : z < 6) (hq : q 0 = nI z) {v : Z5} (hv : zoK v) (hi : i ≤ p) (hA : At g n p (sk (zoT v ++ rest))) : ∃ p' nu', At g n p' (sk rest) ∧ i + 1 ≤ p' ∧ ∀ d K, Ev (d + 5) 36 2 [some (.ref 13), some (.int (nI i)), l2] [] (cH (zC c s q a t) (rd g n p nu ec hs sc) st) K = Ev (d + 5) 36 2 [some (.ref 13), some (.int (nI (i + 1))), some (.int 1)] [] (cH (zC c s (upf q 0 (nI (z + 1))) (zW a z (nI v.1) (nI v.2.1) (nI v.2.2.1) (nI v.2.2.2.1) (nI v.2.2.2.2)) t) (rd g n p' nu' ec hs sc) st) K := by
  have hA1 : At g n p (wrd 1 ++ (nmsT [v.1, v.2.1, v.2.2.1, v.2.2.2.1, v.2.2.2.2] ++ 59 :: rest)) := by
    have e : sk (zoT v ++ rest) = wrd 1 ++ (nmsT [v.1, v.2.1, v.2.2.1, v.2.2.2.1, v.2.2.2.2] ++ 59 :: rest) := by
      show sk (32 :: _) = _
      rw [sk_sp]
      show sk ((wrd 1 ++ (nmsT [v.1, v.2.1, v.2.2.1, v.2.2.2.1, v.2.2.2.2] ++ [59])) ++ rest) = _
      rw [List.append_assoc, List.append_assoc, sk_wrd (by decide)]
      rfl
    rw [← e]; exact hA
  have hgz : ∀ q a t, cB (zC c s q a t) = g := fun _ _ _ => hg
  obtain ⟨k1, k2, -⟩ := tok_word (k := 1) (by decide) (c := 32) hA1 (by decide)
  obtain ⟨p1, a1, r1⟩ := c_zone (t := t) (nu := nu) (ec := ec) (hs := hs) (sc := sc) (st := st) (a := a) hg hn hs' hG hz hq hv.1 hv.2.1 hv.2.2.1 hv.2.2.2.1 hv.2.2.2.2 hA1
  have hlt := a1.1
  have hl0 := hA1.1
  obtain ⟨a2, r2⟩ := st_tail (c := zC c s (upf q 0 (nI (z + 1))) (zW a z (nI v.1) (nI v.2.1) (nI v.2.2.1) (nI v.2.2.2.1) (nI v.2.2.2.2)) t) (i := i) (nu := nI v.2.2.2.2) (ec := ec) (hs := hs) (sc := sc) (st := st) (hgz _ _ _) hn a1
  have hl2 := a2.1
  have hsk := sk_len rest
  have lw : (wrd 1).length = 4 := rfl
  rw [List.length_append, List.length_append, List.length_cons, lw] at hl0
  refine ⟨nxT g n p1, nI v.2.2.2.2, a2, by omega, fun d K => ?_⟩
  have wi := fun q a t K => c_wordIs (c := zC c s q a t) (d := d) (k := 1) (K := K) (nu := nu) (ec := ec) (hs := hs) (sc := sc) (st := st) (by decide) (hgz q a t) hn hA1.le
  have r1' := fun K => r1 (d + 1) K
  rw [st_head hn (by omega) (by rw [k1]; decide)]
  simp only [i36_17, i36_18, i36_20, i36_23, i36_26, i36_27, i36_30, i36_33, i36_34, i36_36, i36_39, i36_42, i36_43, i36_46, i36_49, i36_50, i36_52, i36_55, i36_58, i36_59, i36_62, i36_65, i36_66, i36_69, i36_72, i36_73, i36_75, i36_78, nl_i, nl_r, nl_0, nl_j, nb0, nb1, nbI, orv_s, konN_v, konN_n, konN_e, true_and, and_true, and_self, if_true, if_false, ite_true, ite_false, isR_ref, true_or, or_true, isR_null, rg10, rg11, rg12, rg13, rg14, rg15, rg16, rh13, rh14, rh15, rh16, bI_T, bI_F, bI_Fb, i1z, Bool.false_eq_true, c_k, wi, k2, r1']
  exact r2 (d + 2) K
theorem st_band (hg : cB c = g) (hn : n ≤ 700) (hs' : SBc c.1 c.2.1 s) (hG : c.2.2.2.2.2.2 13 = s) {v : B3} (hv : bdK v) (hi : i ≤ p) (hA : At g n p (bdT v ++ rest)) : ∃ p' nu', At g n p' (sk rest) ∧ i + 1 ≤ p' ∧ ∀ d K, Ev (d + 5) 36 2 [some (.ref 13), some (.int (nI i)), l2] [] (cH (zC c s q a t) (rd g n p nu ec hs sc) st) K = Ev (d + 5) 36 2 [some (.ref 13), some (.int (nI (i + 1))), some (.int 1)] [] (cH (zC c s q (bW a v.1 (nI v.2.1) (nI v.2.2)) t) (rd g n p' nu' ec hs sc) st) K := by
  have hA1 : At g n p (wrd 2 ++ (nmsT [v.1, v.2.1, v.2.2] ++ 59 :: rest)) := by
    have e : bdT v ++ rest = wrd 2 ++ (nmsT [v.1, v.2.1, v.2.2] ++ 59 :: rest) := by
      unfold bdT
      rw [List.append_assoc, List.append_assoc]
      rfl
    rw [← e]; exact hA
  have hgz : ∀ q a t, cB (zC c s q a t) = g := fun _ _ _ => hg
  obtain ⟨k1, k2, -⟩ := tok_word (k := 2) (by decide) (c := 32) hA1 (by decide)
  have n1 : wdB g n p 1 = false := wd_no (by decide) (show At g n p (98 :: _) from hA1) (by decide)
  obtain ⟨p1, a1, r1⟩ := c_band (q := q) (t := t) (nu := nu) (ec := ec) (hs := hs) (sc := sc) (st := st) (a := a) hg hn hs' hG hv.1 hv.2.1 hv.2.2 hA1
  have hlt := a1.1
  have hl0 := hA1.1
  obtain ⟨a2, r2⟩ := st_tail (c := zC c s q (bW a v.1 (nI v.2.1) (nI v.2.2)) t) (i := i) (nu := nI v.2.2) (ec := ec) (hs := hs) (sc := sc) (st := st) (hgz _ _ _) hn a1
  have hl2 := a2.1
  have hsk := sk_len rest
  have lw : (wrd 2).length = 4 := rfl
  rw [List.length_append, List.length_append, List.length_cons, lw] at hl0
  refine ⟨nxT g n p1, nI v.2.2, a2, by omega, fun d K => ?_⟩
  have wi := fun k hk q a t K => c_wordIs (c := zC c s q a t) (d := d) (k := k) (K := K) (nu := nu) (ec := ec) (hs := hs) (sc := sc) (st := st) hk (hgz q a t) hn hA1.le
  have r1' := fun K => r1 (d + 1) K
  rw [st_head hn (by omega) (by rw [k1]; decide)]
  simp only [i36_17, i36_18, i36_20, i36_23, i36_26, i36_27, i36_30, i36_33, i36_34, i36_36, i36_39, i36_42, i36_43, i36_46, i36_49, i36_50, i36_52, i36_55, i36_58, i36_59, i36_62, i36_65, i36_66, i36_69, i36_72, i36_73, i36_75, i36_78, nl_i, nl_r, nl_0, nl_j, nb0, nb1, nbI, orv_s, konN_v, konN_n, konN_e, true_and, and_true, and_self, if_true, if_false, ite_true, ite_false, isR_ref, true_or, or_true, isR_null, rg10, rg11, rg12, rg13, rg14, rg15, rg16, rh13, rh14, rh15, rh16, bI_T, bI_F, bI_Fb, i1z, Bool.false_eq_true, c_k, wi 1 (by decide), wi 2 (by decide), n1, k2, r1']
  exact r2 (d + 2) K
theorem st_heat (hg : cB c = g) (hn : n ≤ 700) (hn10 : 10 ≤ n) (hs' : SBc c.1 c.2.1 s) (hG : c.2.2.2.2.2.2 13 = s) (hsN : s + 7 < hN c.1) (h140 : 140 ≤ s) (hT : ∀ i, hN c.1 ≤ i → c.2.1 i = false) {D : Nat} {h : AH} {B : Nat → Prop} {aa tx V} (hD : D ≤ 2) (hnd : NodeR h B D aa tx L V) (hi : i ≤ p) (hAt : At g n p (htT (tx 0) ++ rest)) : ∃ p' nu', At g n p' (sk rest) ∧ i + 1 ≤ p' ∧ ∀ d K, Ev (d + 16) 36 2 [some (.ref 13), some (.int (nI i)), l2] [] (cH (zC c s q a t) (rd g n p nu ec 0 sc) st) K = Ev (d + 16) 36 2 [some (.ref 13), some (.int (nI (i + 1))), some (.int 1)] [] (cH (zC (tC c L.length (apL st 0 L)) s q a (hN c.1)) (rd g n p' nu' ec 1 L.length) (apL st 0 L)) K := by
  have hA1 : At g n p (wrd 3 ++ 32 :: (tx 0 ++ 59 :: rest)) := by
    have e : htT (tx 0) ++ rest = wrd 3 ++ 32 :: (tx 0 ++ 59 :: rest) := by
      unfold htT
      rw [List.append_assoc, List.cons_append, List.append_assoc]
      rfl
    rw [← e]; exact hAt
  have hgz : ∀ q a t, cB (zC c s q a t) = g := fun _ _ _ => hg
  have hgt : cB (zC (tC c L.length (apL st 0 L)) s q a (hN c.1)) = g := hg
  obtain ⟨k1, k2, -⟩ := tok_word (k := 3) (by decide) (c := 32) hA1 (by decide)
  have n1 : wdB g n p 1 = false := wd_no (by decide) (show At g n p (104 :: _) from hA1) (by decide)
  have n2 : wdB g n p 2 = false := wd_no (by decide) (show At g n p (104 :: _) from hA1) (by decide)
  obtain ⟨p1, nu1, a1, r1⟩ := c_heat (q := q) (t := t) (nu := nu) (ec := ec) (sc := sc) (st := st) (a := a) hg hn hn10 hs' hG hsN h140 hT hD hnd hA1
  have hlt := a1.1
  have hl0 := hA1.1
  obtain ⟨a2, r2⟩ := st_tail (c := zC (tC c L.length (apL st 0 L)) s q a (hN c.1)) (i := i) (nu := nu1) (ec := ec) (hs := 1) (sc := L.length) (st := apL st 0 L) hgt hn a1
  have hl2 := a2.1
  have hsk := sk_len rest
  have lw : (wrd 3).length = 4 := rfl
  rw [List.length_append, List.length_cons, List.length_append, List.length_cons, lw] at hl0
  refine ⟨nxT g n p1, nu1, a2, by omega, fun d K => ?_⟩
  have wi := fun k hk q a t K => c_wordIs (c := zC c s q a t) (d := d + 11) (k := k) (K := K) (nu := nu) (ec := ec) (hs := 0) (sc := sc) (st := st) hk (hgz q a t) hn hA1.le
  have r1' := fun K => r1 d K
  rw [st_head hn (by omega) (by rw [k1]; decide)]
  simp only [i36_17, i36_18, i36_20, i36_23, i36_26, i36_27, i36_30, i36_33, i36_34, i36_36, i36_39, i36_42, i36_43, i36_46, i36_49, i36_50, i36_52, i36_55, i36_58, i36_59, i36_62, i36_65, i36_66, i36_69, i36_72, i36_73, i36_75, i36_78, nl_i, nl_r, nl_0, nl_j, nb0, nb1, nbI, orv_s, konN_v, konN_n, konN_e, true_and, and_true, and_self, if_true, if_false, ite_true, ite_false, isR_ref, true_or, or_true, isR_null, rg10, rg11, rg12, rg13, rg14, rg15, rg16, rh13, rh14, rh15, rh16, bI_T, bI_F, bI_Fb, i1z, Bool.false_eq_true, c_k, c_f10, rd_10, wi 1 (by decide), wi 2 (by decide), wi 3 (by decide), n1, n2, k2, r1']
  exact r2 (d + 13) K
theorem st_zones (hg : cB c = g) (hn : n ≤ 700) (hs' : SBc c.1 c.2.1 s) (hG : c.2.2.2.2.2.2 13 = s) : ∀ (vs : List Z5) (z i p : Nat) (q : Nat → Int32) (a : Nat → Nat → Int32) (nu : Int32) (l2 : Option Value), z + vs.length ≤ 6 → q 0 = nI z → (∀ v, v ∈ vs → zoK v) → i ≤ p → At g n p (sk (zosT vs ++ rest)) → ∃ p' i' nu' l2' q', (q' 0 = nI (z + vs.length) ∧ ∀ j, ¬ j = 0 → q' j = q j) ∧ At g n p' (sk rest) ∧ i' ≤ p' ∧ ∀ d K, Ev (d + 5) 36 2 [some (.ref 13), some (.int (nI i)), l2] [] (cH (zC c s q a t) (rd g n p nu ec hs sc) st) K = Ev (d + 5) 36 2 [some (.ref 13), some (.int (nI i')), l2'] [] (cH (zC c s q' (zAll vs z a) t) (rd g n p' nu' ec hs sc) st) K
  | [], z, i, p, q, a, nu, l2, h6, hq, hv, hi, hA => ⟨p, i, nu, l2, q, ⟨hq, fun _ _ => rfl⟩, hA, hi, fun _ _ => rfl⟩
  | v :: vs, z, i, p, q, a, nu, l2, h6, hq, hv, hi, hA => by
    rw [List.length_cons] at h6
    have hA' : At g n p (sk (zoT v ++ (zosT vs ++ rest))) := by rw [← List.append_assoc]; exact hA
    obtain ⟨p1, nu1, a1, i1, r1⟩ := st_zone (l2 := l2) (t := t) (nu := nu) (ec := ec) (hs := hs) (sc := sc) (st := st) (a := a) hg hn hs' hG (show z < 6 by omega) hq (hv v (by simp)) hi hA'
    obtain ⟨p2, i2, nu2, l2', q', ⟨b1, b2⟩, b3, b4, r2⟩ := st_zones hg hn hs' hG vs (z + 1) (i + 1) p1 (upf q 0 (nI (z + 1))) _ nu1 (some (.int 1)) (by omega) (upf_same _ _ _) (fun v hv' => hv v (by simp [hv'])) i1 a1
    refine ⟨p2, i2, nu2, l2', q', ⟨by rw [b1, List.length_cons, show z + 1 + vs.length = z + (vs.length + 1) by omega], fun j hj => (b2 j hj).trans (upf_ne _ _ hj)⟩, b3, b4, fun d K => (r1 d K).trans (r2 d K)⟩
theorem st_bands (hg : cB c = g) (hn : n ≤ 700) (hs' : SBc c.1 c.2.1 s) (hG : c.2.2.2.2.2.2 13 = s) : ∀ (vs : List B3) (i p : Nat) (a : Nat → Nat → Int32) (nu : Int32) (l2 : Option Value), (∀ v, v ∈ vs → bdK v) → i ≤ p → At g n p (sk (bdsT vs ++ rest)) → ∃ p' i' nu' l2', At g n p' (sk rest) ∧ i' ≤ p' ∧ ∀ d K, Ev (d + 5) 36 2 [some (.ref 13), some (.int (nI i)), l2] [] (cH (zC c s q a t) (rd g n p nu ec hs sc) st) K = Ev (d + 5) 36 2 [some (.ref 13), some (.int (nI i')), l2'] [] (cH (zC c s q (bAll vs a) t) (rd g n p' nu' ec hs sc) st) K
  | [], i, p, a, nu, l2, hv, hi, hA => ⟨p, i, nu, l2, hA, hi, fun _ _ => rfl⟩
  | v :: vs, i, p, a, nu, l2, hv, hi, hA => by
    have hA' : At g n p (bdT v ++ (bdsT vs ++ rest)) := by
      have e : sk ((bdT v ++ bdsT vs) ++ rest) = bdT v ++ (bdsT vs ++ rest) := by
        unfold bdT
        rw [List.append_assoc, List.append_assoc, sk_wrd (by decide)]
      rw [← e]; exact hA
    obtain ⟨p1, nu1, a1, i1, r1⟩ := st_band (l2 := l2) (q := q) (t := t) (nu := nu) (ec := ec) (hs := hs) (sc := sc) (st := st) (a := a) hg hn hs' hG (hv v (by simp)) hi hA'
    obtain ⟨p2, i2, nu2, l2', b3, b4, r2⟩ := st_bands hg hn hs' hG vs (i + 1) p1 _ nu1 (some (.int 1)) (fun v hv' => hv v (by simp [hv'])) i1 a1
    exact ⟨p2, i2, nu2, l2', b3, b4, fun d K => (r1 d K).trans (r2 d K)⟩
theorem st_end (hn : n ≤ 700) (hs' : SBc c.1 c.2.1 s) (hG : c.2.2.2.2.2.2 13 = s) (hz : 1 ≤ z ∧ z ≤ 6) (hq : q 0 = nI z) (hi : i ≤ p) (hA : At g n p []) : Ev d 36 2 [some (.ref 13), some (.int (nI i)), l2] [] (cH (zC c s q a t) (rd g n p nu ec hs sc) st) K = K (.inl (some (.int 1))) (cH (zC c s q a t) (rd g n p nu ec hs sc) st) := by
  have e : p = n := hA.1
  have k0 : kdT g n p = 0 := (kdT_end (by omega)).1
  have z0 : (nI z ≤ 0) = False := eq_false (fun y => by rw [i32_le, nI_toInt (by omega)] at y; have y : (z : Int) ≤ 0 := y; omega)
  have z0' : (0 < nI z) = True := eq_true (by rw [i32_lt, nI_toInt (by omega)]; show (0 : Int) < z; omega)
  rw [i36_2]
  by_cases hin : n ≤ i
  · simp only [i36_3, i36_4, i36_7, i36_10, i36_11, i36_14, i36_100, i36_101, i36_104, i36_107, i36_110, i36_111, i36_113, i36_116, i36_119, i36_120, i36_123, i36_124, nl_i, nl_r, nl_0, nl_j, nb0, nb1, nbI, orv_s, konN_v, konN_n, konN_e, true_and, and_true, and_self, if_true, if_false, ite_true, ite_false, isR_ref, true_or, or_true, isR_null, rg10, rg11, rg12, rg13, rg14, rg15, rg16, rh13, rh14, rh15, rh16, bI_T, bI_F, bI_Fb, i1z, Bool.false_eq_true, c_k, c_f2, c_f3, rd_2, rd_3, nI_leI (show n < 2 ^ 31 by omega) (show i < 2 ^ 31 by omega), hin, z_g hG, z_k hs', z_0 hs', hq, z0, z0']
  · simp only [i36_3, i36_4, i36_7, i36_10, i36_11, i36_14, i36_100, i36_101, i36_104, i36_107, i36_110, i36_111, i36_113, i36_116, i36_119, i36_120, i36_123, i36_124, nl_i, nl_r, nl_0, nl_j, nb0, nb1, nbI, orv_s, konN_v, konN_n, konN_e, true_and, and_true, and_self, if_true, if_false, ite_true, ite_false, isR_ref, true_or, or_true, isR_null, rg10, rg11, rg12, rg13, rg14, rg15, rg16, rh13, rh14, rh15, rh16, bI_T, bI_F, bI_Fb, i1z, Bool.false_eq_true, c_k, c_f2, c_f3, rd_2, rd_3, nI_leI (show n < 2 ^ 31 by omega) (show i < 2 ^ 31 by omega), hin, k0, z_g hG, z_k hs', z_0 hs', hq, z0, z0']
end RDS
