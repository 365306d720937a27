/-! FACE: run -/
def C3 (m : Nat) (a : Nat → Nat → Int32) : Prop := ∀ j k, 7 ≤ j → j ≤ 9 → k < 20 → ∃ c, c ≤ m ∧ a j k = nI c
section C3S
variable {m j0 k0 k n : Nat} {a sa : Nat → Nat → Int32} {g q pg : Nat → Int32} {w th x : Int32} {v : LSt}
theorem C3_le (h : C3 m a) : C3 (m + 1) a := fun j k j1 j2 hk => by
  obtain ⟨c, h1, h2⟩ := h j k j1 j2 hk
  exact ⟨c, by omega, h2⟩
theorem C3_o (h : C3 m a) (hj : j0 < 7 ∨ 9 < j0) : C3 m (upf a j0 g) := fun j k j1 j2 hk => by
  rw [upf_ne _ _ (by omega)]
  exact h j k j1 j2 hk
theorem C3_up (h : C3 m a) (h1 : 7 ≤ j0) (h2 : j0 ≤ 9) (hk : k0 < 20) : C3 (m + 1) (upf a j0 (upd (a j0) k0 (a j0 k0 + 1))) := fun j k j1 j2 hk' => by
  by_cases e : j = j0
  · subst e
    rw [upf_same]
    by_cases e2 : k = k0
    · subst e2
      obtain ⟨c, c1, c2⟩ := h j k j1 j2 hk'
      refine ⟨c + 1, by omega, ?_⟩
      rw [upd_eq, c2, nI_1]
    · rw [upd_nz e2]
      exact C3_le h j k j1 j2 hk'
  · rw [upf_ne _ _ e]
    exact C3_le h j k j1 j2 hk'
theorem zn_th (h : 2 ≤ th ∧ th ≤ 19) : zn th < 20 := by
  obtain ⟨k, k20, -, rfl⟩ := th_nI h.1 h.2
  rw [show zn (nI k) = k from zn_nI (by omega)]
  exact k20
theorem C3_judge (h : C3 m a) : C3 (m + 1) (judgeF sa q x a) := by
  unfold judgeF learnF
  dsimp only
  split
  · rename_i ht
    have hz := zn_th ht
    split
    · exact C3_o (C3_up (a := upf a 6 _) (C3_o h (by omega)) (by omega) (by omega) hz) (by omega)
    · split
      · exact C3_o (C3_up (a := upf a 6 _) (C3_o h (by omega)) (by omega) (by omega) hz) (by omega)
      · exact C3_up (a := upf a 6 _) (C3_o h (by omega)) (by omega) (by omega) hz
  · exact C3_le h
theorem itn_P {α : Type} {P : α → Prop} {f : Nat → α → α} (hf : ∀ k s, P s → P (f k s)) : ∀ m k s, P s → P (itn f k m s)
  | 0, _, _, h => h
  | m + 1, k, s, h => itn_P hf m (k + 1) (f k s) (hf k s h)
theorem itd_P {α : Type} {P : α → Prop} {f : Nat → α → α} (hf : ∀ k s, P s → P (f k s)) : ∀ m s, P s → P (itd f m s)
  | 0, _, h => h
  | m + 1, s, h => itd_P hf m (f m s) (hf m s h)
theorem C3_hz (h : C3 m a) : C3 m (hzL sa n a) := itn_P (P := C3 m) (fun k s hs => by
  unfold hzStep
  split
  · exact C3_o hs (by omega)
  · exact hs) n 0 a h
theorem C3_hs {u : (Nat → Int32) × (Nat → Nat → Int32)} {f : Nat → Int32} (h : C3 m u.2) : C3 m (hsF sa pg n f k u).2 := by
  unfold hsF
  split
  · split
    · exact C3_o (C3_o h (by omega)) (by omega)
    · exact h
  · exact h
theorem C3_mv (h : v.1 1 = w ∧ C3 m v.2) : (moveF sa q k v).1 1 = w ∧ C3 m (moveF sa q k v).2 := by
  unfold moveF spoilL toQuF toNxF
  dsimp only
  repeat' split
  all_goals first
    | exact h
    | exact ⟨h.1, C3_o (C3_o h.2 (by omega)) (by omega)⟩
    | exact ⟨h.1, C3_o h.2 (by omega)⟩
theorem C3_qu (h : v.1 1 = w ∧ C3 m v.2) : (quL sa q v).1 1 = w ∧ C3 (m + 1) (quL sa q v).2 := by
  unfold quL
  split
  · exact ⟨h.1, C3_judge h.2⟩
  · split
    · exact ⟨h.1, C3_le h.2⟩
    · exact ⟨h.1, C3_le h.2⟩
theorem C3_ff : ∀ l k (a : Nat → Nat → Int32), C3 m a → C3 m (fillF a k l)
  | 0, _, _, h => h
  | l + 1, k, a, h => by
    rw [fillF]
    split
    · exact C3_o (C3_o h (by omega)) (by omega)
    · exact C3_ff l (k + 1) a h
theorem CL_tick {f stk : Nat → Int32} (h : CL m f a) : CL (m + 1) (tickL sa q pg n (stk, f, a)).2.1 (tickL sa q pg n (stk, f, a)).2.2 := by
  have h1 : C3 m (hzL sa (zn (q 0)) a) := C3_hz h.2
  have h2 : C3 m (itn (hsF sa pg n f) 0 (zn (q 0)) (stk, hzL sa (zn (q 0)) a)).2 := itn_P (P := fun u : (Nat → Int32) × (Nat → Nat → Int32) => C3 m u.2) (fun k s hs => C3_hs hs) _ 0 _ h1
  have h3 := C3_qu (sa := sa) (q := q) (v := (f, (itn (hsF sa pg n f) 0 (zn (q 0)) (stk, hzL sa (zn (q 0)) a)).2)) ⟨h.1, h2⟩
  have h4 := itd_P (P := fun v : LSt => v.1 1 = nI m ∧ C3 (m + 1) v.2) (fun k s hs => C3_mv (sa := sa) (q := q) (k := k) hs) (zn (q 0)) _ h3
  unfold tickL fillL
  dsimp only
  refine ⟨?_, ?_⟩
  · rw [upf_same, h4.1, nI_1]
  · split
    · exact C3_ff _ _ _ h4.2
    · exact h4.2
end C3S
/-- m ticks -/
def rnF (sa : Nat → Nat → Int32) (q pg : Nat → Int32) (n : Nat) : Nat → ULt → ULt
  | 0, v => v
  | m + 1, v => rnF sa q pg n m (tickL sa q pg n v)
section RU
variable {d : Nat} {h : AH} {hh : AH} {T : Nat → Bool} {S A : Nat → Nat → Int32} {J : Nat → Nat → Int64} {G : Nat → Nat} {c : HP} {x y : Int32} {nz ns t n : Nat} {q pg : Nat → Int32} {sa : Nat → Nat → Int32}
theorem rc_loop {N : Nat} {p : Int32} (hN : N ≤ 60) (hs : SUp h T (G 28) t q sa n pg) : ∀ m k (U : Nat → Nat → Int32) (f : Nat → Int32) (a : Nat → Nat → Int32) (d : Nat) (K : AO → AH → Prop), k + m = N → zn (f 2) ≤ 20 →
    Ev (d + 6) 73 57 [some (.ref 0), some (.int (nI N)), some (.int p), some (.int (nI k))] [] (MH h T U (pS S 28 f) (pA A 28 a) J G) K = Ev (d + 6) 73 75 [some (.ref 0), some (.int (nI N)), some (.int p), some (.int (nI N))] [] (MH h T (upf U (t + 2) (rnF sa q pg n m (U (t + 2), f, a)).1) (pS S 28 (rnF sa q pg n m (U (t + 2), f, a)).2.1) (pA A 28 (rnF sa q pg n m (U (t + 2), f, a)).2.2) J G) K
  | 0, k, U, f, a, d, K, hk, hn => by
    obtain rfl : k = N := by omega
    rw [rnF, upf_id, i73_57]
    simp only [i73_58, i73_59, i73_62, i73_63, i73_66, i73_69, i73_72, nl_i, nl_r, nl_0, nl_j, nb0, nb1, nbI, orv_s, konN_v, konN_n, konN_e, true_and, and_true, and_self, if_true, if_false, ite_true, ite_false, isR_ref, true_or, or_true, bI_T, bI_F, bI_Fb, i1z, Bool.false_eq_true, show (nI k ≤ nI k) = True from eq_true (Int32.le_refl _)]
  | m + 1, k, U, f, a, d, K, hk, hn => by
    have hb := hb28
    have hle : (nI N ≤ nI k) = False := eq_false (fun y => by
      have := (nI_leI (a := N) (b := k) (by omega) (by omega)).mp y
      omega)
    have ih := rc_loop (p := p) hN hs m (k + 1) (upf U (t + 2) (tickL sa q pg n (U (t + 2), f, a)).1) (tickL sa q pg n (U (t + 2), f, a)).2.1 (tickL sa q pg n (U (t + 2), f, a)).2.2 d K (by omega) (by rw [tick_2]; exact hn)
    rw [upf_same, upf_upf] at ih
    rw [rnF, ← ih, i73_57]
    simp only [i73_58, i73_59, i73_62, i73_63, i73_66, i73_69, i73_72, nl_i, nl_r, nl_0, nl_j, nb0, nb1, nbI, orv_s, konN_v, konN_n, konN_e, true_and, and_true, and_self, if_true, if_false, ite_true, ite_false, isR_ref, true_or, or_true, bI_T, bI_F, bI_Fb, i1z, Bool.false_eq_true, k_l0 hb, k_l1 hb, k_l2 hb, k_l3 hb, k_l4 hb, k_l5 hb, k_l6 hb, k_l7 hb, k_l8 hb, k_l9 hb, k_l10 hb, l_l1 hb, l_l2 hb, l_l3 hb, l_l4 hb, l_l5 hb, l_l6 hb, l_l7 hb, l_l8 hb, l_l9 hb, l_l10 hb, a_l1 hb, a_l2 hb, a_l3 hb, a_l4 hb, a_l5 hb, a_l6 hb, a_l7 hb, a_l8 hb, a_l9 hb, a_l10 hb, wa_l1 hb, wa_l2 hb, wa_l3 hb, wa_l4 hb, wa_l5 hb, wa_l6 hb, wa_l7 hb, wa_l8 hb, wa_l9 hb, wa_l10 hb, f_l0 hb, f_l1 hb, f_l2 hb, f_l3 hb, f_l4 hb, f_l5 hb, f_l6 hb, f_l7 hb, f_l8 hb, f_l9 hb, f_l10 hb, f_l11 hb, f_l12 hb, f_l13 hb, f_l14 hb, w_l0 hb, w_l1 hb, w_l2 hb, w_l3 hb, w_l4 hb, pS_b, pS_up, pA_1, pA_2, pA_3, pA_4, pA_5, pA_6, pA_7, pA_8, pA_9, pA_10, pU_1, pU_2, pU_3, pU_4, pU_5, pU_6, pU_7, pU_8, pU_9, pU_10, mh_N, mh_S, mh_X, mh_alH, k_0, f_0_1, hle, s_tick hb hs hn, nI_1]
theorem rr_loop {N : Nat} {p : Int32} (hN : N ≤ 60) (h0 : 0 < nz) : ∀ m k (stk f D : Nat → Int32) (a : Nat → Nat → Int32) (J : Nat → Nat → Int64) (mm : Nat), k + m = N → INV nz ns f a → EQL nz ns f a D → STA nz q sa n pg D → CL mm f a →
    ∃ J' D', J' 155 = J 155 ∧ (∀ d K, Ev (d + 5) 159 75 [some (.ref 140), some (.int (nI N)), some (.int p), some (.int (nI k))] [] (dH c J D) K = Ev (d + 5) 159 90 [some (.ref 140), some (.int (nI N)), some (.int p), some (.int (nI N))] [] (dH c J' D') K) ∧
      INV nz ns (rnF sa q pg n m (stk, f, a)).2.1 (rnF sa q pg n m (stk, f, a)).2.2 ∧ EQL nz ns (rnF sa q pg n m (stk, f, a)).2.1 (rnF sa q pg n m (stk, f, a)).2.2 D' ∧ STA nz q sa n pg D' ∧ CL (mm + m) (rnF sa q pg n m (stk, f, a)).2.1 (rnF sa q pg n m (stk, f, a)).2.2
  | 0, k, stk, f, D, a, J, mm, hk, hI, hE, hS, hC => by
    obtain rfl : k = N := by omega
    refine ⟨J, D, rfl, fun d K => ?_, hI, hE, hS, hC⟩
    rw [i159_75]
    simp only [i159_76, i159_77, i159_80, i159_81, i159_84, i159_87, nl_i, nl_r, nl_0, nl_j, nb0, nb1, nbI, orv_s, konN_v, konN_n, konN_e, true_and, and_true, and_self, if_true, if_false, ite_true, ite_false, isR_ref, true_or, or_true, bI_T, bI_F, bI_Fb, i1z, Bool.false_eq_true, show (nI k ≤ nI k) = True from eq_true (Int32.le_refl _)]
  | m + 1, k, stk, f, D, a, J, mm, hk, hI, hE, hS, hC => by
    have hle : (nI N ≤ nI k) = False := eq_false (fun y => by
      have := (nI_leI (a := N) (b := k) (by omega) (by omega)).mp y
      omega)
    obtain ⟨J1, D1, g1, r1, x1, x2, x3⟩ := tick_step (c := c) (J := J) (stk := stk) h0 hI hE hS
    obtain ⟨J2, D2, g2, r2, y1, y2, y3, y4⟩ := rr_loop (p := p) hN h0 m (k + 1) (tickL sa q pg n (stk, f, a)).1 (tickL sa q pg n (stk, f, a)).2.1 D1 (tickL sa q pg n (stk, f, a)).2.2 J1 (mm + 1) (by omega) x1 x2 x3 (CL_tick hC)
    rw [show mm + 1 + m = mm + (m + 1) by omega] at y4
    refine ⟨J2, D2, g2.trans g1, fun d K => ?_, y1, y2, y3, y4⟩
    rw [← r2, i159_75]
    simp only [i159_76, i159_77, i159_80, i159_81, i159_84, i159_87, nl_i, nl_r, nl_0, nl_j, nb0, nb1, nbI, orv_s, konN_v, konN_n, konN_e, true_and, and_true, and_self, if_true, if_false, ite_true, ite_false, isR_ref, true_or, or_true, bI_T, bI_F, bI_Fb, i1z, Bool.false_eq_true, d_k, d_f8, d_k2, d_l2, d_a2, d_wa2, s_zoneAt, s_sheetAt, s_kindAt, nI_1, nI_p2, nI_p3, nI_p4, nI_p5, nI_p6, ib_0, ib_1, ib_2, ib_3, ib_4, ib_5, ib_6, ib_7, ib_8, iz_0, iz_1, iz_2, iz_3, iz_4, iz_5, iz_6, iz_7, iz_8, ze_0, ze_1, ze_2, ze_3, ze_4, ze_5, ze_6, ze_7, ze_8, hle, r1, nI_1]
end RU
