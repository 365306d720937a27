/-! WRITE THE NUMBERS BEHIND A WORD; LOAD THE COLLECTED TEXT -/
section WNS
variable {d u y kk n : Nat} {g : AH} {T : Nat → Bool} {U S A : Nat → Nat → Int32} {J : Nat → Nat → Int64} {G : Nat → Nat} {K : AO → AH → Prop} {l w ns : List Nat}
theorem nms_drop {i : Nat} (h : i < ns.length) : nmsT (ns.drop i) = [32] ++ (dgs (ns.getD i 0) ++ nmsT (ns.drop (i + 1))) := by
  rw [List.drop_eq_getElem_cons h]
  have e : ns[i] = ns.getD i 0 := by
    rw [List.getD_eq_getElem?_getD, List.getElem?_eq_getElem h]
    rfl
  rw [e]
  rfl
def RowI (g : AH) (y : Nat) (ns : List Nat) : Prop := (hk g y = 10 ∧ hl g y = ns.length) ∧ y < hN g ∧ ∀ j, j < ns.length → hA g y j = nI (ns.getD j 0)
theorem RowI.keep {g' : AH} {W : Nat → Prop} (x : RowI g y ns) (hs : Sm W g g') (hw : ¬ W y) : RowI g' y ns := by
  obtain ⟨⟨x1, x2⟩, x3, x4⟩ := x
  refine ⟨⟨(hs.k x3).trans x1, (hs.l x3).trans x2⟩, Nat.lt_of_lt_of_le x3 hs.1, fun j hj => ?_⟩
  rw [hs.A x3 hw]
  exact x4 j hj
theorem s_wns_l (hv : ∀ j, j < ns.length → ns.getD j 0 < 1000) (hn : ns.length ≤ 1000) : ∀ {m i : Nat} {g : AH} {S A : Nat → Nat → Int32} {l : List Nat} {l7 : Option Value}, ns.length = i + m → FX g T U S A J G → ¬ CW T u ∧ u < hN g → BUF g u S A l → RowI g y ns → ¬ (y = u ∨ own y = true) → l.length + 4 * m ≤ 640 → ∃ g' S' A' l7', FX g' T U S' A' J G ∧ BUF g' u S' A' (l ++ nmsT (ns.drop i)) ∧ WR u g g' S S' A A' ∧ ∀ d K, Ev (d + 5) 139 17 [some (.ref 0), some (.ref u), some (litV kk), some (.ref y), some (.ref y), some (.int (nI ns.length)), some (.int (nI i)), l7] [] g K = Ev (d + 5) 139 51 [some (.ref 0), some (.ref u), some (litV kk), some (.ref y), some (.ref y), some (.int (nI ns.length)), some (.int (nI ns.length)), l7'] [] g' K
  | 0, i, g, S, A, l, l7, hm, x, hu, hb, hy, hyw, h6 => by
    have e : ns.length = i := by omega
    refine ⟨g, S, A, l7, x, ?_, WR.rf, fun d K => ?_⟩
    · rw [List.drop_eq_nil_of_le (by omega)]
      show BUF g u S A (l ++ [])
      rw [List.append_nil]
      exact hb
    · have c : (nI ns.length ≤ nI i) = True := eq_true (by rw [e]; exact Int32.le_refl _)
      rw [i139_17]
      simp only [i139_19, i139_21, i139_24, i139_26, i139_28, i139_29, i139_31, i139_32, i139_33, i139_35, i139_38, i139_39, i139_40, i139_42, i139_45, i139_48, nl_i, nl_r, nl_0, nl_j, nb0, nb1, nbI, orv_s, konN_v, konN_n, konN_e, true_and, and_true, and_self, if_true, if_false, ite_true, ite_false, isR_ref, true_or, or_true, isR_null, rg10, rg11, rg12, rg13, rg14, rg15, rg16, rh13, rh14, rh15, rh16, bI_T, bI_F, bI_Fb, i1z, Bool.false_eq_true, c]
      rw [e]
  | m + 1, i, g, S, A, l, l7, hm, x, hu, hb, hy, hyw, h6 => by
    have hi : i < ns.length := by omega
    have c : (nI ns.length ≤ nI i) = False := eq_false (fun z => by
      have := (nI_leI (a := ns.length) (b := i) (by omega) (by omega)).mp z
      omega)
    have dk := dgs_ok (hv i hi)
    obtain ⟨⟨y1, y2⟩, y3, y4⟩ := hy
    obtain ⟨g1, S1, A1, x1, b1, w1, e1⟩ := s_write (bs := [32]) x hu hb lit6 (fun _ z => z.elim) (by show l.length + 1 ≤ 660; omega)
    obtain ⟨g2, S2, A2, x2, b2, w2, e2⟩ := s_wnum x1 ⟨hu.1, Nat.lt_of_lt_of_le hu.2 w1.1.1.1⟩ b1 (hv i hi) (by rw [List.length_append]; show l.length + 1 + 3 ≤ 660; omega)
    have w12 := w1.tr w2
    have hy2 : RowI g2 y ns := RowI.keep ⟨⟨y1, y2⟩, y3, y4⟩ w12.1.1 hyw
    obtain ⟨g3, S3, A3, l7', x3, b3, w3, e3⟩ := s_wns_l hv hn (m := m) (i := i + 1) (l7 := some (.int (nI (ns.getD i 0)))) (by omega) x2 ⟨hu.1, Nat.lt_of_lt_of_le hu.2 w12.1.1.1⟩ b2 hy2 hyw (by rw [List.length_append, List.length_append]; show l.length + 1 + (dgs (ns.getD i 0)).length + 4 * m ≤ 640; omega)
    refine ⟨g3, S3, A3, l7', x3, ?_, w12.tr w3, fun d K => ?_⟩
    · rw [nms_drop hi, ← List.append_assoc, ← List.append_assoc]
      exact b3
    · have e1' := fun K => e1 d K
      have e2' := fun K => e2 d K
      rw [i139_17]
      simp only [i139_19, i139_21, i139_24, i139_26, i139_28, i139_29, i139_31, i139_32, i139_33, i139_35, i139_38, i139_39, i139_40, i139_42, i139_45, i139_48, nl_i, nl_r, nl_0, nl_j, nb0, nb1, nbI, orv_s, konN_v, konN_n, konN_e, true_and, and_true, and_self, if_true, if_false, ite_true, ite_false, isR_ref, true_or, or_true, isR_null, rg10, rg11, rg12, rg13, rg14, rg15, rg16, rh13, rh14, rh15, rh16, bI_T, bI_F, bI_Fb, i1z, Bool.false_eq_true, c, y1, y2, inbT hi (show ns.length < 2 ^ 31 by omega), zn_nI (show i < 2 ^ 31 by omega), y4 i hi, e1', e2', nI_add, nI_1, nl_L]
      exact e3 d K
theorem s_wns (x : FX g T U S A J G) (hu : ¬ CW T u ∧ u < hN g) (hb : BUF g u S A l) (hw : StrR g (fun _ => False) (litV kk) w) (hk17 : kk < 17) (hv : ∀ j, j < ns.length → ns.getD j 0 < 1000) (hn : ns.length ≤ 100) (hy : RowI g y ns) (hyw : ¬ (y = u ∨ own y = true)) (h6 : l.length + w.length + 4 * ns.length ≤ 630) : ∃ g' S' A', FX g' T U S' A' J G ∧ BUF g' u S' A' (l ++ (w ++ (nmsT ns ++ [59]))) ∧ WR u g g' S S' A A' ∧ ∀ d K, EvM (d + 5) 139 [.ref 0, .ref u, litV kk, .ref y] g K = K (.inl none) g' := by
  obtain ⟨g1, S1, A1, x1, b1, w1, e1⟩ := s_write x hu hb hw (fun _ z => z.elim) (by omega)
  have hy1 := hy.keep w1.1.1 hyw
  obtain ⟨g2, S2, A2, l7', x2, b2, w2, e2⟩ := s_wns_l (kk := kk) (l7 := none) hv (by omega) (m := ns.length) (i := 0) (by omega) x1 ⟨hu.1, Nat.lt_of_lt_of_le hu.2 w1.1.1.1⟩ b1 hy1 hyw (by rw [List.length_append]; omega)
  have w12 := w1.tr w2
  have nl4 : (nmsT ns).length ≤ 4 * ns.length := by
    have gen : ∀ l : List Nat, (∀ j, j < l.length → l.getD j 0 < 1000) → (nmsT l).length ≤ 4 * l.length := fun l => by
      induction l with
      | nil => intro _; exact Nat.le_refl _
      | cons a l ih =>
        intro h
        have i2 := ih (fun j hj => h (j + 1) (by show j + 1 < l.length + 1; omega))
        have i3 := (dgs_ok (h 0 (by show 0 < l.length + 1; omega))).2.2
        have i3 : (dgs a).length ≤ 3 := i3
        show (32 :: (dgs a ++ nmsT l)).length ≤ 4 * (l.length + 1)
        rw [List.length_cons, List.length_append]
        omega
    exact gen ns hv
  obtain ⟨g3, S3, A3, x3, b3, w3, e3⟩ := s_write (bs := [59]) x2 ⟨hu.1, Nat.lt_of_lt_of_le hu.2 w12.1.1.1⟩ b2 lit7 (fun _ z => z.elim) (by rw [List.length_append, List.length_append]; show l.length + w.length + (nmsT ns).length + 1 ≤ 660; omega)
  refine ⟨g3, S3, A3, x3, ?_, w12.tr w3, fun d K => ?_⟩
  · rw [← List.append_assoc, ← List.append_assoc]
    exact b3
  · have e1' := fun K => e1 d K
    have e2' := fun K => e2 d K
    have e3' := fun K => e3 d K
    rw [nI_0] at e2'
    obtain ⟨⟨y1, y2⟩, y3, y4⟩ := hy1
    simp only [i139_0, i139_1, i139_2, i139_3, i139_6, i139_7, i139_9, i139_11, i139_12, i139_14, i139_15, in139, nl_i, nl_r, nl_0, nl_j, nb0, nb1, nbI, orv_s, konN_v, konN_n, konN_e, true_and, and_true, and_self, if_true, if_false, ite_true, ite_false, isR_ref, true_or, or_true, isR_null, rg10, rg11, rg12, rg13, rg14, rg15, rg16, rh13, rh14, rh15, rh16, bI_T, bI_F, bI_Fb, i1z, Bool.false_eq_true, isRL hk17, e1', y1, y2, show (10 ≤ 10 ∧ 10 ≤ 16) = True from eq_true (by decide), nl_L, e2', i139_51, i139_52, i139_53, i139_55, i139_58, e3']
end WNS
section LTX
variable {g : AH} {T : Nat → Bool} {U S A : Nat → Nat → Int32} {J : Nat → Nat → Int64} {G : Nat → Nat} {u q1 q2 nx kp : Nat} {zs : List Z5} {bs : List B3} {ht : List Nat} {B : Nat → Prop} {tv : Value} {L : List Int32} {l : List Nat}
/-- the class's own cells alone are written -/
theorem FX.owns {S' A' : Nat → Nat → Int32} {J' : Nat → Nat → Int64} {G' : Nat → Nat} (x : FX g T U S A J G) : Sm (fun i => own i = true) g (MH g T U S' A' J' G') := by
  have s2 := (x.cls (U' := U) (S' := S') (A' := A') (J' := J') (G' := G')).1
  refine ⟨s2.1, s2.2.1, s2.2.2.1, s2.2.2.2.1, fun i hi hw => ?_⟩
  have oi : own i = false := Bool.eq_false_iff.mpr (fun z => hw z)
  by_cases ht : T i = true
  · have e := x.1
    refine ⟨fun k => mh_Fn oi, ?_, ?_, ?_⟩
    · have z : hA g i = hA (MH g T U S A J G) i := congrArg (fun y : AH => hA y i) e
      rw [z]
      show (if own i = true then _ else if T i = true then U i else _) = (if own i = true then _ else if T i = true then U i else _)
      rw [oi, ht]
      rfl
    · show (if own i = true then J' i else g.2.2.2.2.2.1 i) = g.2.2.2.2.2.1 i
      rw [oi]
      rfl
    · show (if own i = true then oR1 i else g.2.2.2.2.2.2.1 i) = g.2.2.2.2.2.2.1 i
      rw [oi]
      rfl
  · exact s2.2.2.2.2 i hi (fun z => by
      rcases z with z | z
      · exact hw z
      · exact ht z)
theorem s_loadText (x : FX g T U S A J G) (hu : ¬ CW T u ∧ u < hN g) (hb : BUF g u S A l) (hlen : 10 ≤ l.length ∧ l.length ≤ 660) (htx : l = txT q1 q2 zs bs ht) (hx : S 50 1 = nI nx) (hx8 : nx < 8) (hkp : S 50 2 = nI kp) (hk8 : kp ≤ 8) (hq1 : 1 ≤ q1 ∧ q1 ≤ 9) (hq2 : q2 ≤ 20) (hz : 1 ≤ zs.length ∧ zs.length ≤ 4) (hzs : ∀ v, v ∈ zs → zoK v) (hbs : ∀ v, v ∈ bs → bdK v) (hht : HtK g B ht tv L) (hBu : ∀ i, B i → ¬ (i = u ∨ own i = true)) :
    ∃ (T2 : Nat → Bool) (U2 S3 A3 : Nat → Nat → Int32) (G3 : Nat → Nat) (t : Nat) (q pg : Nat → Int32) (g' : AH),
      (FX g' T2 U2 S3 A3 J G3 ∧ Sm (fun i => i = u ∨ CW T i) g g' ∧ hN g' ≤ hN g + 15 ∧ hS g' ≤ hS g + 900 ∧ (∀ i, i < hN g → T2 i = T i)) ∧
      (SUp g' T2 (hN g) t q (bAll bs (zAll zs 0 a0)) L.length pg ∧ (hN g + 8 ≤ t ∧ t + 3 ≤ hN g') ∧ (q 0 = nI zs.length ∧ q 1 = nI q1 ∧ q 2 = nI q2) ∧ ∀ j, j < L.length → pg j = L.getD j 0) ∧
      (S3 28 = (startL (bAll bs (zAll zs 0 a0)) (S 28) (fun j => A (28 + j))).1 ∧ (∀ j, 1 ≤ j → j ≤ 10 → A3 (28 + j) = (startL (bAll bs (zAll zs 0 a0)) (S 28) (fun j => A (28 + j))).2 j) ∧ G3 28 = hN g ∧ S3 50 1 = nI ((nx + 1) % 8) ∧ S3 50 2 = nI (min (kp + 1) 8) ∧ S3 13 1 = 0) ∧
      ∀ d K, EvM (d + 19) 120 [.ref 0, .ref u] g K = K (.inl (some (.int (nI zs.length)))) g' := by
  obtain ⟨⟨ku, lu⟩, u0, u1⟩ := hb.1
  obtain ⟨b1, b2, b3⟩ := hb.2
  obtain ⟨n, hn⟩ : ∃ n, n = l.length := ⟨_, rfl⟩
  have o : own u = false := Bool.eq_false_iff.mpr (fun z => hu.1 (Or.inl z))
  rw [← hn] at u0 u1 b1 b2 hlen
  have d20 : nI n - nI n / 20 * 20 = nI (n % 20) := r20 (by omega)
  have n20 : ((20 : Int32) = 0) = False := eq_false (by decide)
  have iz0 : inb (0 : Int32) 8 = True := eq_true (by decide)
  have pre : ∃ g1 S1 A1 fl, FX g1 T U S1 A1 J G ∧ (Sm (fun i => i = u ∨ own i = true) g g1 ∧ hN g1 = hN g ∧ hS g1 = hS g) ∧ (n ≤ fl ∧ fl ≤ 700 ∧ S1 13 1 = nI fl) ∧ (S1 28 = S 28 ∧ S1 50 = S 50 ∧ ∀ j, A1 (28 + j) = A (28 + j)) ∧ At (A1 14) n 0 l ∧ ∀ d K, EvM (d + 19) 120 [.ref 0, .ref u] g K = EvM (d + 18) 123 [.ref 0, .int (nI n)] g1 (konN (d + 19) 120 25 [some (.ref 0), some (.ref u), some (.int (nI n))] [] K) := by
    by_cases hz : n % 20 = 0
    · have e20 : 20 * (n / 20) = n := by omega
      rw [e20] at b1 b2
      have sg1 : Sm (fun i => i = u) g (wA g u (upd (hA g u) 0 0)) := Sm.wA rfl
      refine ⟨wA g u (upd (hA g u) 0 0), S, A, n, x.law sg1 (fun i hi z => hu.1 (by rw [← z]; exact hi)), ⟨sg1.mo (fun i _ z => Or.inl z), rfl, rfl⟩, ⟨Nat.le_refl _, by omega, b1⟩, ⟨rfl, rfl, fun _ => rfl⟩, ⟨by omega, fun j hj => ?_⟩, fun d K => ?_⟩
      · rw [Nat.zero_add]
        exact ⟨b2 j (by omega), b3 j⟩
      · have c : (nI (n % 20) ≤ 0) = True := eq_true (by rw [hz]; decide)
        simp only [in120, i120_0, i120_1, i120_2, i120_3, i120_4, i120_5, i120_7, i120_8, i120_11, i120_12, i120_13, i120_16, i120_17, i120_18, i120_19, i120_20, i120_21, i120_22, i120_25, nl_i, nl_r, nl_0, nl_j, nb0, nb1, nbI, orv_s, konN_v, konN_n, konN_e, true_and, and_true, and_self, if_true, if_false, ite_true, ite_false, isR_ref, true_or, or_true, isR_null, rg10, rg11, rg12, rg13, rg14, rg15, rg16, rh13, rh14, rh15, rh16, bI_T, bI_F, bI_Fb, i1z, Bool.false_eq_true, ku, lu, u0, d20, n20, iz0, zn_0, not_false_eq_true, c]
    · have f20 : 20 * (n / 20) + 20 ≤ 700 := by omega
      have fl := fun d K => s_flush (d := d) (K := K) x hu.1 ku lu b1 f20
      obtain ⟨g0, hg0⟩ : ∃ y, y = wA (MH g T U (up2 S 13 1 (nI (20 * (n / 20) + 20))) (upf A 14 (pw5 (A 14) (20 * (n / 20)) (hA g u 1) (hA g u 2) (hA g u 3) (hA g u 4) (hA g u 5))) J G) u (z5 (hA g u)) := ⟨_, rfl⟩
      rw [← hg0] at fl
      have sg1 : Sm (fun i => i = u ∨ own i = true) g (wA g0 u (upd (hA g0 u) 0 0)) := by
        rw [hg0]
        exact ((x.owns.mo (V := fun i => i = u ∨ own i = true) (fun i _ z => Or.inr z)).tr (Sm.wA (W := fun i => i = u ∨ own i = true) (Or.inl rfl))).tr (Sm.wA (W := fun i => i = u ∨ own i = true) (Or.inl rfl))
      have x1 : FX (wA g0 u (upd (hA g0 u) 0 0)) T U (up2 S 13 1 (nI (20 * (n / 20) + 20))) (upf A 14 (pw5 (A 14) (20 * (n / 20)) (hA g u 1) (hA g u 2) (hA g u 3) (hA g u 4) (hA g u 5))) J G := by
        have z := (x.cls (U' := U) (S' := up2 S 13 1 (nI (20 * (n / 20) + 20))) (A' := upf A 14 (pw5 (A 14) (20 * (n / 20)) (hA g u 1) (hA g u 2) (hA g u 3) (hA g u 4) (hA g u 5))) (J' := J) (G' := G)).2
        refine z.law (W := fun i => i = u) ?_ (fun i hi z => hu.1 (by rw [← z]; exact hi))
        rw [hg0]
        exact (Sm.wA (W := fun i => i = u) rfl).tr (Sm.wA (W := fun i => i = u) rfl)
      have k0 : hk g0 u = 10 := by rw [hg0, k_wA, mh_kn o]; exact ku
      have l0 : hl g0 u = 8 := by rw [hg0, l_wA, mh_ln o]; exact lu
      have h1 : hA g u 1 = nI (wdN l (20 * (n / 20))) := u1 0 (by omega)
      have h2 : hA g u 2 = nI (wdN l (20 * (n / 20) + 4)) := u1 1 (by omega)
      have h3 : hA g u 3 = nI (wdN l (20 * (n / 20) + 8)) := u1 2 (by omega)
      have h4 : hA g u 4 = nI (wdN l (20 * (n / 20) + 12)) := u1 3 (by omega)
      have h5 : hA g u 5 = nI (wdN l (20 * (n / 20) + 16)) := u1 4 (by omega)
      refine ⟨wA g0 u (upd (hA g0 u) 0 0), up2 S 13 1 (nI (20 * (n / 20) + 20)), upf A 14 (pw5 (A 14) (20 * (n / 20)) (hA g u 1) (hA g u 2) (hA g u 3) (hA g u 4) (hA g u 5)), 20 * (n / 20) + 20, x1, ⟨sg1, by rw [hg0]; rfl, by rw [hg0]; rfl⟩, ⟨by omega, f20, up2_same⟩, ⟨?_, ?_, fun j => upf_ne _ _ (by omega)⟩, ⟨by omega, fun j hj => ⟨?_, b3 j⟩⟩, fun d K => ?_⟩
      · funext k; exact up2_ne (fun z => by omega)
      · funext k; exact up2_ne (fun z => by omega)
      · rw [Nat.zero_add, upf_same, h1, h2, h3, h4, h5, pw5_at b3]
        by_cases e : 20 * (n / 20) ≤ j
        · rw [if_pos (by omega)]
        · rw [if_neg (by omega), b2 j (by omega)]
      · have c : (nI (n % 20) ≤ 0) = False := eq_false (fun y => by
          have := (nI_leI (a := n % 20) (b := 0) (by omega) (by omega)).mp y
          omega)
        have fl' := fun K => fl (d + 16) K
        simp only [in120, i120_0, i120_1, i120_2, i120_3, i120_4, i120_5, i120_7, i120_8, i120_11, i120_12, i120_13, i120_16, i120_17, i120_18, i120_19, i120_20, i120_21, i120_22, i120_25, nl_i, nl_r, nl_0, nl_j, nb0, nb1, nbI, orv_s, konN_v, konN_n, konN_e, true_and, and_true, and_self, if_true, if_false, ite_true, ite_false, isR_ref, true_or, or_true, isR_null, rg10, rg11, rg12, rg13, rg14, rg15, rg16, rh13, rh14, rh15, rh16, bI_T, bI_F, bI_Fb, i1z, Bool.false_eq_true, ku, lu, u0, d20, n20, iz0, zn_0, not_false_eq_true, c, fl', k0, l0]
  obtain ⟨g1, S1, A1, fl, x1, ⟨s1, n1, m1⟩, ⟨f1, f2, f3⟩, ⟨e1, e2, e3⟩, at1, ev1⟩ := pre
  have hht1 : HtK g1 B ht tv L := by
    rcases hht with hht | ⟨aa, tx, V, h1, h2, h3⟩
    · exact Or.inl hht
    · exact Or.inr ⟨aa, tx, V, h1, h2, h3.keep s1 hBu⟩
  rw [htx] at at1
  obtain ⟨T2, U2, S3, A3, G3, t, q, pg, g', ⟨c1, c2, c3, c4, c5⟩, cs, ⟨c6, c7, c8⟩, c9⟩ := s_cload x1 f1 f2 hlen.1 f3 (by rw [e2]; exact hx) hx8 (by rw [e2]; exact hkp) hk8 hq1 hq2 hz hzs hbs hht1 at1
  have ea : (fun j => A1 (28 + j)) = fun j => A (28 + j) := funext e3
  rw [e1, ea] at c6
  rw [e1, ea] at c7
  rw [n1] at c3 c5 c8 cs
  rw [m1] at c4
  refine ⟨T2, U2, S3, A3, G3, t, q, pg, g', ⟨c1, ?_, c3, c4, c5⟩, cs, ⟨c6, c7, c8⟩, fun d K => ?_⟩
  · refine (s1.mo (fun i _ z => ?_)).tr (c2.mo (fun i _ z => Or.inr z))
    rcases z with z | z
    · exact Or.inl z
    · exact Or.inr (Or.inl z)
  · have c9' := fun K => c9 d K
    have k6 : hk g1 0 = 6 := by rw [x1.1]; exact k_0
    have cg : ∀ (K : AO → AH → Prop) (v : Value) (g : AH), konG (d + 17 + 1) 123 2 [some (.ref 0), some (.int (nI n)), none] [] K (.inl (some v)) g = Ev (d + 17 + 1) 123 5 [some (.ref 0), some (.int (nI n)), none] [v] g K := fun K v g => konG_v
    rw [ev1]
    simp only [in123, i123_0, i123_1, i123_2, k123_2_0, i123_5, i123_6, i123_7, i123_9, nl_i, nl_r, nl_0, nl_j, nb0, nb1, nbI, orv_s, konN_v, konN_n, konN_e, true_and, and_true, and_self, if_true, if_false, ite_true, ite_false, isR_ref, true_or, or_true, isR_null, rg10, rg11, rg12, rg13, rg14, rg15, rg16, rh13, rh14, rh15, rh16, bI_T, bI_F, bI_Fb, i1z, Bool.false_eq_true, c9', k6, cg, i120_25]
end LTX
