/-! FACE: guard -/
theorem itn_up {w : Nat → Int32} : ∀ (m k : Nat) (g : Nat → Int32), itn (fun k (g : Nat → Int32) => upd g k (w k)) k m g = fun j => if k ≤ j ∧ j < k + m then w j else g j
  | 0, k, g => by
    rw [itn]
    funext j
    rw [if_neg (by omega)]
  | m + 1, k, g => by
    rw [itn, itn_up m (k + 1)]
    funext j
    by_cases e : j = k
    · subst e
      rw [if_neg (by omega), if_pos (by omega), upd_eq]
    · rw [upd_nz e]
      by_cases e2 : k + 1 ≤ j ∧ j < k + 1 + m
      · rw [if_pos e2, if_pos (by omega)]
      · rw [if_neg e2, if_neg (by omega)]
section GU
variable {d : Nat} {h : AH} {hh : AH} {T : Nat → Bool} {U U' S A : Nat → Nat → Int32} {J J' : Nat → Nat → Int64} {G : Nat → Nat} {K : AO → AH → Prop} {c : HP} {x y th : Int32} {nz ns t n g : Nat} {q pg f D X Y : Nat → Int32} {a sa : Nat → Nat → Int32}
theorem gh_loop (hnz : nz ≤ 6) (l3 : Option Value) : ∀ m k (D : Nat → Int32), k + m = nz → STA nz q sa n pg D →
    ∃ D', (∀ d K, Ev (d + 5) 151 37 [some (.ref 140), some (.int th), some (.int (nI k)), l3] [] (dH c J D) K = Ev (d + 5) 151 79 [some (.ref 140), some (.int th), some (.int (nI nz)), l3] [] (dH c J D') K) ∧ STA nz q sa n pg D' ∧
      (∀ i, i < 9 ∨ 51 ≤ i → D' i = D i) ∧ (∀ z, z < 6 → D' (9 + 7 * z) = D (9 + 7 * z)) ∧ (∀ z, z < k → D' (9 + 7 * z + 5) = D (9 + 7 * z + 5) ∧ D' (9 + 7 * z + 6) = D (9 + 7 * z + 6)) ∧ ∀ z, k ≤ z → z < nz → D' (9 + 7 * z + 5) = D (9 + 7 * z) ∧ D' (9 + 7 * z + 6) = 0
  | 0, k, D, hk, hS => by
    obtain rfl : k = nz := by omega
    have d0 := hS.1.2.2
    refine ⟨D, fun d K => ?_, hS, fun _ _ => rfl, fun _ _ => rfl, fun _ _ => ⟨rfl, rfl⟩, fun z h1 h2 => absurd h1 (by omega)⟩
    rw [i151_37]
    simp only [i151_38, i151_39, i151_42, i151_43, i151_44, i151_47, i151_48, i151_51, i151_52, i151_55, i151_56, i151_57, i151_58, i151_61, i151_62, i151_65, i151_66, i151_67, i151_68, i151_69, i151_70, i151_73, i151_76, nl_i, nl_r, nl_0, nl_j, nb0, nb1, nbI, orv_s, konN_v, konN_n, konN_e, true_and, and_true, and_self, if_true, if_false, ite_true, ite_false, isR_ref, true_or, or_true, bI_T, bI_F, bI_Fb, i1z, Bool.false_eq_true, d_k, d_f8, d_k2, d_l2, d_a2, d_wa2, s_zoneAt, s_sheetAt, s_kindAt, nI_1, nI_p2, nI_p3, nI_p4, nI_p5, nI_p6, ib_0, ib_1, ib_2, ib_3, ib_4, ib_5, ib_6, ib_7, ib_8, iz_0, iz_1, iz_2, iz_3, iz_4, iz_5, iz_6, iz_7, iz_8, ze_0, ze_1, ze_2, ze_3, ze_4, ze_5, ze_6, ze_7, ze_8, d0, show (nI k ≤ nI k) = True from eq_true (Int32.le_refl _)]
  | m + 1, k, D, hk, hS => by
    have d0 := hS.1.2.2
    have hle : (nI nz ≤ nI k) = False := eq_false (fun y => by
      have := (nI_leI (a := nz) (b := k) (by omega) (by omega)).mp y
      omega)
    have k6 : k < 6 := by omega
    have hS1 := STA_upd (i := 9 + 7 * k + 5) (v := D (9 + 7 * k)) (Or.inr (Or.inr (Or.inr (Or.inr (Or.inl ⟨k, k6, Or.inr (Or.inl rfl)⟩))))) hS
    have hS2 := STA_upd (i := 9 + 7 * k + 6) (v := -1 + 1) (Or.inr (Or.inr (Or.inr (Or.inr (Or.inl ⟨k, k6, Or.inr (Or.inr rfl)⟩))))) hS1
    obtain ⟨D', r, b1, b2, b3, b4, b5⟩ := gh_loop hnz l3 m (k + 1) (upd (upd D (9 + 7 * k + 5) (D (9 + 7 * k))) (9 + 7 * k + 6) (-1 + 1)) (by omega) hS2
    refine ⟨D', fun d K => ?_, b1, fun i hi => ?_, fun z hz => ?_, fun z hz => ?_, fun z h1 h2 => ?_⟩
    · rw [← r, i151_37]
      simp only [i151_38, i151_39, i151_42, i151_43, i151_44, i151_47, i151_48, i151_51, i151_52, i151_55, i151_56, i151_57, i151_58, i151_61, i151_62, i151_65, i151_66, i151_67, i151_68, i151_69, i151_70, i151_73, i151_76, nl_i, nl_r, nl_0, nl_j, nb0, nb1, nbI, orv_s, konN_v, konN_n, konN_e, true_and, and_true, and_self, if_true, if_false, ite_true, ite_false, isR_ref, true_or, or_true, bI_T, bI_F, bI_Fb, i1z, Bool.false_eq_true, d_k, d_f8, d_k2, d_l2, d_a2, d_wa2, s_zoneAt, s_sheetAt, s_kindAt, nI_1, nI_p2, nI_p3, nI_p4, nI_p5, nI_p6, ib_0, ib_1, ib_2, ib_3, ib_4, ib_5, ib_6, ib_7, ib_8, iz_0, iz_1, iz_2, iz_3, iz_4, iz_5, iz_6, iz_7, iz_8, ze_0, ze_1, ze_2, ze_3, ze_4, ze_5, ze_6, ze_7, ze_8, d0, hle, nI_p5, inbT (show 9 + 7 * k < 1451 by omega) (show 1451 < 2 ^ 31 by omega), zn_nI (show 9 + 7 * k < 2 ^ 31 by omega), inbT (show 9 + 7 * k + 5 < 1451 by omega) (show 1451 < 2 ^ 31 by omega), zn_nI (show 9 + 7 * k + 5 < 2 ^ 31 by omega), s_hold k6, nI_1]
    · rw [b2 i hi, upd_nz (by omega), upd_nz (by omega)]
    · rw [b3 z hz, upd_nz (by omega), upd_nz (by omega)]
    · have := b4 z (by omega)
      rw [this.1, this.2, upd_nz (by omega), upd_nz (by omega), upd_nz (by omega), upd_nz (by omega)]
      exact ⟨rfl, rfl⟩
    · by_cases e : z = k
      · subst e
        have := b4 z (by omega)
        rw [this.1, this.2, upd_nz (by omega), upd_eq, upd_eq]
        exact ⟨rfl, rfl⟩
      · have := b5 z (by omega) h2
        rw [this.1, this.2, upd_nz (by omega), upd_nz (by omega)]
        exact ⟨rfl, rfl⟩
theorem hold0 (hI : INV nz ns f a) (hE : EQL nz ns f a D) {D' : Nat → Int32} (hnz : nz ≤ 6) (b2 : ∀ i, i < 9 ∨ 51 ≤ i → D' i = D i) (b3 : ∀ z, z < 6 → D' (9 + 7 * z) = D (9 + 7 * z)) (b5 : ∀ z, 0 ≤ z → z < nz → D' (9 + 7 * z + 5) = D (9 + 7 * z) ∧ D' (9 + 7 * z + 6) = 0) :
    INV nz 0 (upf (readyL (f, a)).1 2 0) (upf (readyL (f, a)).2 2 (itn (zeqF (a 1)) 0 6 (a 2))) ∧ EQL nz 0 (upf (readyL (f, a)).1 2 0) (upf (readyL (f, a)).2 2 (itn (zeqF (a 1)) 0 6 (a 2))) (upd (upd D' 5 0) 1 0) := by
  have e2 : itn (zeqF (a 1)) 0 6 (a 2) = fun j => if 0 ≤ j ∧ j < 0 + 6 then a 1 j else a 2 j := itn_up (w := a 1) 6 0 (a 2)
  have e3 : noHold (a 3) = fun j => if 0 ≤ j ∧ j < 0 + 6 then (-1 : Int32) else a 3 j := itn_up (w := fun _ => -1) 6 0 (a 3)
  have v2 : ∀ z, z < nz → itn (zeqF (a 1)) 0 6 (a 2) z = a 1 z := fun z hz => by rw [e2]; exact if_pos ⟨Nat.zero_le _, by omega⟩
  have v3 : ∀ z, z < nz → noHold (a 3) z = -1 := fun z hz => by rw [e3]; exact if_pos ⟨Nat.zero_le _, by omega⟩
  obtain ⟨⟨i1, i2, i3⟩, i4, ⟨i5, i6⟩, i7, i8, i9⟩ := hI
  obtain ⟨⟨c1, c2, c3, c4⟩, c5, c6, c7⟩ := hE
  refine ⟨⟨⟨rfl, by omega, fun _ => rfl⟩, Or.inl ⟨rfl, rfl⟩, ⟨fun z hz => Or.inl (v3 z hz), fun z z' hz _ _ _ => v3 z hz⟩, fun z hz => ⟨(i7 z hz).1, ?_⟩, fun s hs => absurd hs (by omega), fun k hk => i9 k hk⟩, ⟨⟨upd_eq, ?_, ?_, Or.inl rfl⟩, fun z hz => ⟨?_, ?_, ?_⟩, fun s hs => absurd hs (by omega), fun k hk => ?_⟩⟩
  · show 20 ≤ itn (zeqF (a 1)) 0 6 (a 2) z ∧ itn (zeqF (a 1)) 0 6 (a 2) z ≤ 900
    rw [v2 z hz]
    have := (i7 z hz).1
    exact ⟨i32_le_tr (by decide) this.1, this.2⟩
  · rw [upd_nz (by decide), upd_nz (by decide), b2 2 (by omega), c2]
    rfl
  · rw [upd_nz (by decide), upd_eq]
    show (0 : Int32) = -1 + 1
    rfl
  · rw [upd_nz (by omega), upd_nz (by omega), b3 z (by omega)]
    exact (c5 z hz).1
  · rw [upd_nz (by omega), upd_nz (by omega), (b5 z (Nat.zero_le _) hz).1]
    show D (9 + 7 * z) = itn (zeqF (a 1)) 0 6 (a 2) z
    rw [v2 z hz]
    exact (c5 z hz).1
  · rw [upd_nz (by omega), upd_nz (by omega), (b5 z (Nat.zero_le _) hz).2]
    show 0 = noHold (a 3) z + 1
    rw [v3 z hz]
    rfl
  · have e := c7 k hk
    rw [upd_nz (by omega), upd_nz (by omega), upd_nz (by omega), upd_nz (by omega), upd_nz (by omega), upd_nz (by omega), upd_nz (by omega), upd_nz (by omega), b2 _ (by omega), b2 _ (by omega), b2 _ (by omega), b2 _ (by omega)]
    exact e
theorem o_guard (hG : GR h T S A G) : JW (h, T, U, S, A, J, G) 174 151 [.int x] := by
  obtain ⟨t, q, sa, n, pg, nz, ns, hs, hN', hS, hI, hE, m, hm, hC⟩ := hG.2.1
  have n6 := hS.1.2.1
  have d0 := hS.1.2.2
  have q0 := hS.1.1
  have i2 := hI.1.2.1
  have hb := hb39
  have hs2 : SUp h T (upf G 39 (G 28) 39) t q sa n pg := by rw [upf_same]; exact hs
  by_cases hx : 2 ≤ x ∧ x ≤ 19
  · by_cases hz : 0 < q 0
    · have hzn : ¬ nz = 0 := fun e => by rw [q0, e] at hz; exact absurd hz (by decide)
      generalize hF : holdOnlyL (S 28) (fun j => A (28 + j)) x = F
      have hold := fun d K => s_holdOnly (d := d) (h := h) (T := T) (U := U) (S := S) (A := A) (J := J) (G := upf G 39 (G 28)) (K := K) (x := x) (f := S 28) (a := fun j => A (28 + j)) hb39
      rw [hF] at hold
      -- the data row with the one sheet
      have sg : ∀ (c : HP) (J : Nat → Nat → Int64) (l3 : Option Value), ∃ D0 : Nat → Int32, (∀ d K, Ev (d + 5) 151 37 [some (.ref 140), some (.int x), some (.int 0), l3] [] (dH c J (A 142)) K = Ev (d + 5) 151 101 [some (.ref 140), some (.int x), some (.int 0), l3] [] (dH c J D0) K) ∧ STA nz q sa n pg D0 ∧ INV nz 1 F.1 F.2 ∧ EQL nz 1 F.1 F.2 D0 := by
        intro c J l3
        obtain ⟨D1, r, b1, b2, b3, b4, b5⟩ := gh_loop (c := c) (J := J) (th := x) n6 l3 nz 0 (A 142) (by omega) hS
        obtain ⟨j1, j2⟩ := hold0 hI hE n6 b2 b3 b5
        have p1 := put_inv (x := x) j1 (by omega) hzn hx
        have p2 := put_eql (x := x) j1 j2 (by omega) n6
        have eF : putL (upf (readyL (S 28, fun j => A (28 + j))).1 2 0) (upf (readyL (S 28, fun j => A (28 + j))).2 2 (itn (zeqF ((fun j => A (28 + j)) 1)) 0 6 ((fun j => A (28 + j)) 2))) x = F := hF
        rw [eF] at p1 p2
        refine ⟨_, fun d K => ?_, ?_, p1, p2⟩
        · have r' := r d K
          rw [nI_0] at r'
          rw [r']
          have s0 : nI (51 + 3 * 0) = 51 := rfl
          have sh : ∀ d K (hh : AH), EvM d 95 [.int 0] hh K = K (.inl (some (.int (nI (51 + 3 * 0))))) hh := fun d K hh => s_sheetAt (k := 0)
          simp only [i151_79, i151_80, i151_83, i151_84, i151_85, i151_86, i151_87, i151_90, i151_91, i151_92, i151_93, i151_94, i151_95, i151_98, i151_99, i151_100, in157, i157_0, i157_1, i157_4, i157_5, i157_6, i157_9, i157_10, i157_11, i157_14, i157_15, i157_16, i157_17, i157_18, i157_21, i157_22, i157_23, i157_24, i157_26, i157_27, i157_28, i157_31, i157_32, i157_33, i157_34, i157_35, i157_36, i157_37, i157_40, i157_41, i157_42, i157_43, i157_44, i157_45, i157_46, i157_47, i157_50, i157_51, i157_52, i157_53, i157_54, nl_i, nl_r, nl_0, nl_j, nb0, nb1, nbI, orv_s, konN_v, konN_n, konN_e, true_and, and_true, and_self, if_true, if_false, ite_true, ite_false, isR_ref, true_or, or_true, bI_T, bI_F, bI_Fb, i1z, Bool.false_eq_true, d_k, d_f8, d_k2, d_l2, d_a2, d_wa2, s_zoneAt, s_sheetAt, s_kindAt, nI_1, nI_p2, nI_p3, nI_p4, nI_p5, nI_p6, ib_0, ib_1, ib_2, ib_3, ib_4, ib_5, ib_6, ib_7, ib_8, iz_0, iz_1, iz_2, iz_3, iz_4, iz_5, iz_6, iz_7, iz_8, ze_0, ze_1, ze_2, ze_3, ze_4, ze_5, ze_6, ze_7, ze_8, sh, nI_1, nI_p2, inbT (show 51 + 3 * 0 < 1451 by omega) (show 1451 < 2 ^ 31 by omega), zn_nI (show 51 + 3 * 0 < 2 ^ 31 by omega), inbT (show 51 + 3 * 0 + 1 < 1451 by omega) (show 1451 < 2 ^ 31 by omega), zn_nI (show 51 + 3 * 0 + 1 < 2 ^ 31 by omega), inbT (show 51 + 3 * 0 + 2 < 1451 by omega) (show 1451 < 2 ^ 31 by omega), zn_nI (show 51 + 3 * 0 + 2 < 2 ^ 31 by omega), upd_nz (show ¬ (1 : Nat) = 51 + 3 * 0 by omega), upd_nz (show ¬ (1 : Nat) = 51 + 3 * 0 + 1 by omega), upd_nz (show ¬ (1 : Nat) = 51 + 3 * 0 + 2 by omega), upd_eq, p01]
          rfl
        · exact STA_upd (Or.inl rfl) (STA_upd (Or.inr (Or.inr (Or.inr (Or.inr (Or.inr (Or.inl ⟨by omega, by omega⟩)))))) (STA_upd (Or.inr (Or.inr (Or.inr (Or.inr (Or.inr (Or.inl ⟨by omega, by omega⟩)))))) (STA_upd (Or.inr (Or.inr (Or.inr (Or.inr (Or.inr (Or.inl ⟨by omega, by omega⟩)))))) (STA_upd (Or.inl rfl) (STA_upd (Or.inr (Or.inr (Or.inl rfl))) b1)))))
      have inv1 := (sg (h, T, U, S, A, J, G) J none).choose_spec.2.2.1
      have zf : zn (F.1 2) = 1 := by rw [inv1.1.1]; exact zn_nI (by omega)
      have ttf := fun d K => s_ttf (d := d) (h := h) (T := T) (U := U) (S := S) (A := A) (J := J) (G := upf G 39 (G 28)) (K := K) (f := F.1) (a := F.2) hb39 hs2 (N := 300) (by omega) (by omega)
      have ft := fun (c : HP) (J : Nat → Nat → Int64) D0 (e1 : EQL nz 1 F.1 F.2 D0) (e2 : STA nz q sa n pg D0) => gd_loop (c := c) (q := q) (sa := sa) (n := n) (pg := pg) (N := 300) (th := x) (by omega) rfl 300 0 (U (t + 2)) F.1 D0 F.2 J (by omega) inv1 e1 e2
      have ef : (F.1, F.2) = F := rfl
      generalize ttfF sa q pg n 0 300 (U (t + 2), F.1, F.2) = R at ttf ft
      generalize hU1 : upf U (t + 2) R.2.1 = U1 at ttf
      generalize hv : (if R.2.2.2 6 0 = 3 then R.1 else -1) = v
      generalize hJ1 : upf J 155 (vp_updL (J 155) 0 v.toInt64) = J1
      have j155 : J1 155 = vp_updL (J 155) 0 v.toInt64 := by rw [← hJ1]; exact upf_same _ _ _
      have ar : pA A 39 R.2.2.2 142 = A 142 := pA_o (by omega)
      obtain ⟨D0, r0, y1, y2, y3⟩ := sg (h, T, U1, up2 (pS S 39 R.2.2.1) 140 0 0, upf (pA A 39 R.2.2.2) 144 (cpF (A 142) (pA A 39 R.2.2.2 144)), J1, upf G 39 (G 28)) J1 none
      obtain ⟨J2, D', nn, g2, hnn, lp, hv2, x1, x2, x3⟩ := ft (h, T, U1, up2 (pS S 39 R.2.2.1) 140 0 0, upf (pA A 39 R.2.2.2) 144 (cpF (A 142) (pA A 39 R.2.2.2 144)), J1, upf G 39 (G 28)) J1 D0 y3 y1
      have zf2 : zn (R.2.2.1 2) = 1 := by rw [x1.1.1]; exact zn_nI (by omega)
      have e6 : D' (51 + 3 * 0 + 2) = R.2.2.2 6 0 := (x2.2.2.1 0 (by omega)).2.2
      have cn : cnt (R.2.2.2 6) 3 1 = if R.2.2.2 6 0 = 3 then 1 else 0 := by
        show (if R.2.2.2 6 0 = 3 then (0 : Int32) + 1 else 0) = _
        split <;> rfl
      refine JW_v (c := (h, T, U, S, A, J, G)) (v := v) (c1 := (h, T, U1, pS S 39 R.2.2.1, pA A 39 R.2.2.2, J, upf G 39 (G 28))) (c2 := (h, T, U1, up2 (pS S 39 R.2.2.1) 140 0 0, upf (upf (pA A 39 R.2.2.2) 144 (cpF (A 142) (pA A 39 R.2.2.2 144))) 142 (cpF (cpF (A 142) (pA A 39 R.2.2.2 144)) D'), J2, upf G 39 (G 28))) (wv174 (fun d K => ?_)) (fun d K => ?_) (GN_p hG (deq_tr cp_deq cp_deq)) (show up2 (pS S 39 R.2.2.1) 140 0 0 140 0 = 0 from up2_same) (show J2 155 = _ from g2.trans j155)
      · show EvM (d + 30) 68 [.ref 0, .int x] (MH h T U S A J G) K = K (.inl (some (.int v))) (MH h T U1 (pS S 39 R.2.2.1) (pA A 39 R.2.2.2) J (upf G 39 (G 28)))
        have sh := fun d K => s_sheetsIn (d := d) (h := h) (T := T) (U := U1) (S := S) (A := A) (J := J) (G := upf G 39 (G 28)) (K := K) (w := 3) (f := R.2.2.1) (a := R.2.2.2) hb39 (by rw [zf2]; omega)
        rw [zf2, cn] at sh
        have t3 : (300 : Int32) = nI 300 := rfl
        by_cases h3 : R.2.2.2 6 0 = 3
        · rw [if_pos h3] at hv sh
          simp only [in68, i68_0, i68_1, i68_2, i68_4, i68_7, i68_8, i68_11, i68_14, i68_17, i68_18, i68_19, i68_20, i68_23, i68_24, i68_27, i68_30, i68_31, i68_34, i68_35, i68_38, i68_39, i68_42, i68_45, i68_48, i68_49, i68_50, i68_53, i68_54, i68_57, i68_58, i68_61, i68_62, i68_65, i68_66, nl_i, nl_r, nl_0, nl_j, nb0, nb1, nbI, orv_s, konN_v, konN_n, konN_e, true_and, and_true, and_self, if_true, if_false, ite_true, ite_false, isR_ref, true_or, or_true, bI_T, bI_F, bI_Fb, i1z, Bool.false_eq_true, k_l0 hb, k_l1 hb, k_l2 hb, k_l3 hb, k_l4 hb, k_l5 hb, k_l6 hb, k_l7 hb, k_l8 hb, k_l9 hb, k_l10 hb, l_l1 hb, l_l2 hb, l_l3 hb, l_l4 hb, l_l5 hb, l_l6 hb, l_l7 hb, l_l8 hb, l_l9 hb, l_l10 hb, a_l1 hb, a_l2 hb, a_l3 hb, a_l4 hb, a_l5 hb, a_l6 hb, a_l7 hb, a_l8 hb, a_l9 hb, a_l10 hb, wa_l1 hb, wa_l2 hb, wa_l3 hb, wa_l4 hb, wa_l5 hb, wa_l6 hb, wa_l7 hb, wa_l8 hb, wa_l9 hb, wa_l10 hb, f_l0 hb, f_l1 hb, f_l2 hb, f_l3 hb, f_l4 hb, f_l5 hb, f_l6 hb, f_l7 hb, f_l8 hb, f_l9 hb, f_l10 hb, f_l11 hb, f_l12 hb, f_l13 hb, f_l14 hb, w_l0 hb, w_l1 hb, w_l2 hb, w_l3 hb, w_l4 hb, pS_b, pS_up, pA_1, pA_2, pA_3, pA_4, pA_5, pA_6, pA_7, pA_8, pA_9, pA_10, pU_1, pU_2, pU_3, pU_4, pU_5, pU_6, pU_7, pU_8, pU_9, pU_10, mh_N, mh_S, mh_X, mh_alH, k_l0 hb28, k_0, f_0_1, f_0_2, s_ra0 hx, p_exists hs, bI_t hz, i1n0, p_copyFrom, hold, t3, ttf, sh, hv]
        · rw [if_neg h3] at hv sh
          simp only [in68, i68_0, i68_1, i68_2, i68_4, i68_7, i68_8, i68_11, i68_14, i68_17, i68_18, i68_19, i68_20, i68_23, i68_24, i68_27, i68_30, i68_31, i68_34, i68_35, i68_38, i68_39, i68_42, i68_45, i68_48, i68_49, i68_50, i68_53, i68_54, i68_57, i68_58, i68_61, i68_62, i68_65, i68_66, nl_i, nl_r, nl_0, nl_j, nb0, nb1, nbI, orv_s, konN_v, konN_n, konN_e, true_and, and_true, and_self, if_true, if_false, ite_true, ite_false, isR_ref, true_or, or_true, bI_T, bI_F, bI_Fb, i1z, Bool.false_eq_true, k_l0 hb, k_l1 hb, k_l2 hb, k_l3 hb, k_l4 hb, k_l5 hb, k_l6 hb, k_l7 hb, k_l8 hb, k_l9 hb, k_l10 hb, l_l1 hb, l_l2 hb, l_l3 hb, l_l4 hb, l_l5 hb, l_l6 hb, l_l7 hb, l_l8 hb, l_l9 hb, l_l10 hb, a_l1 hb, a_l2 hb, a_l3 hb, a_l4 hb, a_l5 hb, a_l6 hb, a_l7 hb, a_l8 hb, a_l9 hb, a_l10 hb, wa_l1 hb, wa_l2 hb, wa_l3 hb, wa_l4 hb, wa_l5 hb, wa_l6 hb, wa_l7 hb, wa_l8 hb, wa_l9 hb, wa_l10 hb, f_l0 hb, f_l1 hb, f_l2 hb, f_l3 hb, f_l4 hb, f_l5 hb, f_l6 hb, f_l7 hb, f_l8 hb, f_l9 hb, f_l10 hb, f_l11 hb, f_l12 hb, f_l13 hb, f_l14 hb, w_l0 hb, w_l1 hb, w_l2 hb, w_l3 hb, w_l4 hb, pS_b, pS_up, pA_1, pA_2, pA_3, pA_4, pA_5, pA_6, pA_7, pA_8, pA_9, pA_10, pU_1, pU_2, pU_3, pU_4, pU_5, pU_6, pU_7, pU_8, pU_9, pU_10, mh_N, mh_S, mh_X, mh_alH, k_l0 hb28, k_0, f_0_1, f_0_2, s_ra0 hx, p_exists hs, bI_t hz, i1n0, p_copyFrom, hold, t3, ttf, sh, hv, show ((0 : Int32) = 1) = False from eq_false (by decide)]
      · show EvM (d + 40) 151 [.ref 140, .int x] (MH h T U1 (pS S 39 R.2.2.1) (pA A 39 R.2.2.2) (upf J 155 (vp_updL (J 155) 0 v.toInt64)) (upf G 39 (G 28))) K = K (.inl (some (.int v))) (MH h T U1 (up2 (pS S 39 R.2.2.1) 140 0 0) (upf (upf (pA A 39 R.2.2.2) 144 (cpF (A 142) (pA A 39 R.2.2.2 144))) 142 (cpF (cpF (A 142) (pA A 39 R.2.2.2 144)) D')) J2 (upf G 39 (G 28)))
        rw [hJ1]
        have c1 := fun d K => s_copy (d := d) (h := h) (T := T) (U := U1) (S := up2 (pS S 39 R.2.2.1) 140 0 0) (A := pA A 39 R.2.2.2) (J := J1) (G := upf G 39 (G 28)) (K := K) (x := 142) (y := 144) rfl rfl rfl rfl (by omega)
        rw [ar] at c1
        rw [← ar] at d0
        have lq : ∀ d K, Ev (d + 5) 151 37 [some (.ref 140), some (.int x), some (.int 0), none] [] (MH h T U1 (up2 (pS S 39 R.2.2.1) 140 0 0) (upf (pA A 39 R.2.2.2) 144 (cpF (A 142) (pA A 39 R.2.2.2 144))) J1 (upf G 39 (G 28))) K = Ev (d + 5) 151 125 [some (.ref 140), some (.int x), some (.int (nI nn)), none] [] (MH h T U1 (up2 (pS S 39 R.2.2.1) 140 0 0) (upf (upf (pA A 39 R.2.2.2) 144 (cpF (A 142) (pA A 39 R.2.2.2 144))) 142 D') J2 (upf G 39 (G 28))) K := fun d K => by
          have l := lp d K none
          rw [nI_0] at l
          have l0 := r0 d K
          rw [l] at l0
          rw [toD, upf_ne _ _ (show ¬ 142 = 144 by decide), ar]
          exact l0
        have c2 := fun d K => s_copy (d := d) (h := h) (T := T) (U := U1) (S := up2 (pS S 39 R.2.2.1) 140 0 0) (A := upf (upf (pA A 39 R.2.2.2) 144 (cpF (A 142) (pA A 39 R.2.2.2 144))) 142 D') (J := J2) (G := upf G 39 (G 28)) (K := K) (x := 144) (y := 142) rfl rfl rfl rfl (by omega)
        rw [upf_same, upf_upf, upf_ne _ _ (show ¬ 144 = 142 by decide), upf_same] at c2
        have st : ∀ d K, EvM (d + 1) 119 [.ref 140, .int 0] (MH h T U1 (up2 (pS S 39 R.2.2.1) 140 0 0) (upf (upf (pA A 39 R.2.2.2) 144 (cpF (A 142) (pA A 39 R.2.2.2 144))) 142 D') J2 (upf G 39 (G 28))) K = K (.inl (some (.int (R.2.2.2 6 0)))) (MH h T U1 (up2 (pS S 39 R.2.2.1) 140 0 0) (upf (upf (pA A 39 R.2.2.2) 144 (cpF (A 142) (pA A 39 R.2.2.2 144))) 142 D') J2 (upf G 39 (G 28))) := fun d K => by
          have e := s_stateOf (d := d) (c := (h, T, U1, up2 (pS S 39 R.2.2.1) 140 0 0, upf (pA A 39 R.2.2.2) 144 (cpF (A 142) (pA A 39 R.2.2.2 144)), J2, upf G 39 (G 28))) (J := J2) (D := D') (K := K) (show 0 < 20 by omega)
          rw [e6] at e
          exact e
        by_cases h3 : R.2.2.2 6 0 = 3
        · rw [if_pos h3] at hv
          have hf : finB (R.2.2.2 6) 0 1 = true := by
            unfold finB
            rw [h3]
            rfl
          rw [if_pos hf] at hv2
          rw [hv2] at hv
          simp only [i151_0, i151_1, i151_2, i151_5, i151_6, i151_7, i151_10, i151_13, i151_14, i151_15, i151_16, i151_19, i151_22, i151_23, i151_24, i151_25, i151_28, i151_29, i151_32, i151_35, i151_36, in151, nl_i, nl_r, nl_0, nl_j, nb0, nb1, nbI, orv_s, konN_v, konN_n, konN_e, true_and, and_true, and_self, if_true, if_false, ite_true, ite_false, isR_ref, true_or, or_true, bI_T, bI_F, bI_Fb, i1z, Bool.false_eq_true, mh_N, mh_S, mh_X, mh_alH, f_0_0, f_0_1, f_0_2, f_0_3, f_13_0, f_13_1, w_13_1, f_13_2, w_13_2, f_13_3, w_13_3, f_13_4, w_13_4, f_13_5, w_13_5, f_13_6, w_13_6, f_13_7, w_13_7, f_13_8, w_13_8, f_13_9, f_13_10, w_13_10, f_13_11, f_13_12, w_13_12, f_50_0, f_50_1, w_50_1, f_50_2, w_50_2, f_140_0, w_140_0, f_140_1, f_140_2, w_140_2, f_140_3, w_140_3, f_140_4, w_140_4, f_140_5, w_140_5, f_140_6, w_140_6, f_140_7, w_140_7, f_140_8, f_140_9, f_140_10, f_140_11, f_140_12, w_140_12, f_140_13, w_140_13, f_140_14, w_140_14, f_140_15, w_13_9, k_0, l_0, k_13, l_13, k_14, l_14, k_15, l_15, k_50, l_50, k_51, l_51, k_140, l_140, k_141, l_141, k_142, l_142, k_143, l_143, k_144, l_144, k_145, l_145, k_146, l_146, k_147, l_147, k_148, l_148, k_149, l_149, k_150, l_150, k_151, l_151, k_152, l_152, k_153, l_153, k_154, l_154, k_155, l_155, a_14, wa_14, a_15, wa_15, a_141, wa_141, a_142, wa_142, a_143, wa_143, a_144, wa_144, a_146, wa_146, a_147, wa_147, a_148, wa_148, a_149, wa_149, a_150, wa_150, a_151, wa_151, a_152, wa_152, a_153, wa_153, j_154, j_155, wj_154, wj_155, r_51, r_145, s_nt0 hx, s_ie d0 n6, bI_f hzn, i1n0, c1, lq, i151_125, i151_126, i151_127, i151_130, i151_131, i151_134, i151_135, i151_138, i151_139, i151_140, i151_141, i151_144, i151_145, i151_148, i151_151, i151_152, i151_155, i151_156, i151_159, i151_160, st, h3, c2, hv]
        · rw [if_neg h3] at hv
          simp only [i151_0, i151_1, i151_2, i151_5, i151_6, i151_7, i151_10, i151_13, i151_14, i151_15, i151_16, i151_19, i151_22, i151_23, i151_24, i151_25, i151_28, i151_29, i151_32, i151_35, i151_36, in151, nl_i, nl_r, nl_0, nl_j, nb0, nb1, nbI, orv_s, konN_v, konN_n, konN_e, true_and, and_true, and_self, if_true, if_false, ite_true, ite_false, isR_ref, true_or, or_true, bI_T, bI_F, bI_Fb, i1z, Bool.false_eq_true, mh_N, mh_S, mh_X, mh_alH, f_0_0, f_0_1, f_0_2, f_0_3, f_13_0, f_13_1, w_13_1, f_13_2, w_13_2, f_13_3, w_13_3, f_13_4, w_13_4, f_13_5, w_13_5, f_13_6, w_13_6, f_13_7, w_13_7, f_13_8, w_13_8, f_13_9, f_13_10, w_13_10, f_13_11, f_13_12, w_13_12, f_50_0, f_50_1, w_50_1, f_50_2, w_50_2, f_140_0, w_140_0, f_140_1, f_140_2, w_140_2, f_140_3, w_140_3, f_140_4, w_140_4, f_140_5, w_140_5, f_140_6, w_140_6, f_140_7, w_140_7, f_140_8, f_140_9, f_140_10, f_140_11, f_140_12, w_140_12, f_140_13, w_140_13, f_140_14, w_140_14, f_140_15, w_13_9, k_0, l_0, k_13, l_13, k_14, l_14, k_15, l_15, k_50, l_50, k_51, l_51, k_140, l_140, k_141, l_141, k_142, l_142, k_143, l_143, k_144, l_144, k_145, l_145, k_146, l_146, k_147, l_147, k_148, l_148, k_149, l_149, k_150, l_150, k_151, l_151, k_152, l_152, k_153, l_153, k_154, l_154, k_155, l_155, a_14, wa_14, a_15, wa_15, a_141, wa_141, a_142, wa_142, a_143, wa_143, a_144, wa_144, a_146, wa_146, a_147, wa_147, a_148, wa_148, a_149, wa_149, a_150, wa_150, a_151, wa_151, a_152, wa_152, a_153, wa_153, j_154, j_155, wj_154, wj_155, r_51, r_145, s_nt0 hx, s_ie d0 n6, bI_f hzn, i1n0, c1, lq, i151_125, i151_126, i151_127, i151_130, i151_131, i151_134, i151_135, i151_138, i151_139, i151_140, i151_141, i151_144, i151_145, i151_148, i151_151, i151_152, i151_155, i151_156, i151_159, i151_160, st, h3, c2, hv]
    · have hz0 : nz = 0 := by
        rw [q0, nI_pz n6] at hz
        omega
      refine jr174 (v := -1) hG (fun d K => ?_) (fun J d K => ?_)
      · simp only [in68, i68_0, i68_1, i68_2, i68_4, i68_7, i68_8, i68_11, i68_14, i68_17, i68_18, i68_19, i68_20, i68_23, i68_24, i68_27, i68_30, i68_31, i68_34, i68_35, i68_38, i68_39, i68_42, i68_45, i68_48, i68_49, i68_50, i68_53, i68_54, i68_57, i68_58, i68_61, i68_62, i68_65, i68_66, nl_i, nl_r, nl_0, nl_j, nb0, nb1, nbI, orv_s, konN_v, konN_n, konN_e, true_and, and_true, and_self, if_true, if_false, ite_true, ite_false, isR_ref, true_or, or_true, bI_T, bI_F, bI_Fb, i1z, Bool.false_eq_true, k_l0 hb, k_l1 hb, k_l2 hb, k_l3 hb, k_l4 hb, k_l5 hb, k_l6 hb, k_l7 hb, k_l8 hb, k_l9 hb, k_l10 hb, l_l1 hb, l_l2 hb, l_l3 hb, l_l4 hb, l_l5 hb, l_l6 hb, l_l7 hb, l_l8 hb, l_l9 hb, l_l10 hb, a_l1 hb, a_l2 hb, a_l3 hb, a_l4 hb, a_l5 hb, a_l6 hb, a_l7 hb, a_l8 hb, a_l9 hb, a_l10 hb, wa_l1 hb, wa_l2 hb, wa_l3 hb, wa_l4 hb, wa_l5 hb, wa_l6 hb, wa_l7 hb, wa_l8 hb, wa_l9 hb, wa_l10 hb, f_l0 hb, f_l1 hb, f_l2 hb, f_l3 hb, f_l4 hb, f_l5 hb, f_l6 hb, f_l7 hb, f_l8 hb, f_l9 hb, f_l10 hb, f_l11 hb, f_l12 hb, f_l13 hb, f_l14 hb, w_l0 hb, w_l1 hb, w_l2 hb, w_l3 hb, w_l4 hb, pS_b, pS_up, pA_1, pA_2, pA_3, pA_4, pA_5, pA_6, pA_7, pA_8, pA_9, pA_10, pU_1, pU_2, pU_3, pU_4, pU_5, pU_6, pU_7, pU_8, pU_9, pU_10, mh_N, mh_S, mh_X, mh_alH, k_l0 hb28, k_0, f_0_1, f_0_2, s_ra0 hx, p_exists hs, bI_f hz]
      · simp only [i151_0, i151_1, i151_2, i151_5, i151_6, i151_7, i151_10, i151_13, i151_14, i151_15, i151_16, i151_19, i151_22, i151_23, i151_24, i151_25, i151_28, i151_29, i151_32, i151_35, i151_36, in151, nl_i, nl_r, nl_0, nl_j, nb0, nb1, nbI, orv_s, konN_v, konN_n, konN_e, true_and, and_true, and_self, if_true, if_false, ite_true, ite_false, isR_ref, true_or, or_true, bI_T, bI_F, bI_Fb, i1z, Bool.false_eq_true, mh_N, mh_S, mh_X, mh_alH, f_0_0, f_0_1, f_0_2, f_0_3, f_13_0, f_13_1, w_13_1, f_13_2, w_13_2, f_13_3, w_13_3, f_13_4, w_13_4, f_13_5, w_13_5, f_13_6, w_13_6, f_13_7, w_13_7, f_13_8, w_13_8, f_13_9, f_13_10, w_13_10, f_13_11, f_13_12, w_13_12, f_50_0, f_50_1, w_50_1, f_50_2, w_50_2, f_140_0, w_140_0, f_140_1, f_140_2, w_140_2, f_140_3, w_140_3, f_140_4, w_140_4, f_140_5, w_140_5, f_140_6, w_140_6, f_140_7, w_140_7, f_140_8, f_140_9, f_140_10, f_140_11, f_140_12, w_140_12, f_140_13, w_140_13, f_140_14, w_140_14, f_140_15, w_13_9, k_0, l_0, k_13, l_13, k_14, l_14, k_15, l_15, k_50, l_50, k_51, l_51, k_140, l_140, k_141, l_141, k_142, l_142, k_143, l_143, k_144, l_144, k_145, l_145, k_146, l_146, k_147, l_147, k_148, l_148, k_149, l_149, k_150, l_150, k_151, l_151, k_152, l_152, k_153, l_153, k_154, l_154, k_155, l_155, a_14, wa_14, a_15, wa_15, a_141, wa_141, a_142, wa_142, a_143, wa_143, a_144, wa_144, a_146, wa_146, a_147, wa_147, a_148, wa_148, a_149, wa_149, a_150, wa_150, a_151, wa_151, a_152, wa_152, a_153, wa_153, j_154, j_155, wj_154, wj_155, r_51, r_145, s_nt0 hx, s_ie d0 n6, bI_t hz0, i1n0]
  · refine je174_0 (b := 0) hG (fun d K => ?_) (fun d K => ?_)
    · simp only [in68, i68_0, i68_1, i68_2, i68_4, i68_7, i68_8, i68_11, i68_14, i68_17, i68_18, i68_19, i68_20, i68_23, i68_24, i68_27, i68_30, i68_31, i68_34, i68_35, i68_38, i68_39, i68_42, i68_45, i68_48, i68_49, i68_50, i68_53, i68_54, i68_57, i68_58, i68_61, i68_62, i68_65, i68_66, nl_i, nl_r, nl_0, nl_j, nb0, nb1, nbI, orv_s, konN_v, konN_n, konN_e, true_and, and_true, and_self, if_true, if_false, ite_true, ite_false, isR_ref, true_or, or_true, bI_T, bI_F, bI_Fb, i1z, Bool.false_eq_true, s_ra1 hx, mh_alH]
    · simp only [i151_0, i151_1, i151_2, i151_5, i151_6, i151_7, i151_10, i151_13, i151_14, i151_15, i151_16, i151_19, i151_22, i151_23, i151_24, i151_25, i151_28, i151_29, i151_32, i151_35, i151_36, in151, nl_i, nl_r, nl_0, nl_j, nb0, nb1, nbI, orv_s, konN_v, konN_n, konN_e, true_and, and_true, and_self, if_true, if_false, ite_true, ite_false, isR_ref, true_or, or_true, bI_T, bI_F, bI_Fb, i1z, Bool.false_eq_true, k_140, f_140_1, f_140_8, f_140_9, f_140_10, f_140_11, f_140_15, f_140_0, f_140_2, f_140_3, f_140_4, f_140_5, f_140_6, f_140_7, f_140_12, f_140_13, f_140_14, w_140_0, w_140_2, w_140_3, w_140_4, w_140_5, w_140_6, w_140_7, w_140_12, w_140_13, w_140_14, k_141, l_141, a_141, wa_141, k_142, l_142, a_142, wa_142, k_143, l_143, a_143, wa_143, k_144, l_144, a_144, wa_144, pS_b, pS_up, mh_N, mh_S, mh_X, mh_alH, s_nt1 hx, i1n0]
end GU
