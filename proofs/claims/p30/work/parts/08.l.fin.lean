/-! TICKS TO THE END, A COPY, THE DIGEST -/
abbrev ULt : Type := (Nat → Int32) × LSt
def doneU (v : ULt) : Bool := finB (v.2.2 6) 0 (zn (v.2.1 2))
/-- from the k-th tick on, at most m: the answer, and what is then -/
def ttfF (sa : Nat → Nat → Int32) (q pg : Nat → Int32) (n : Nat) : Nat → Nat → ULt → Int32 × ULt
  | k, 0, v => (if doneU v = true then nI k else -1, v)
  | k, m + 1, v => if doneU v = true then (nI k, v) else ttfF sa q pg n (k + 1) m (tickL sa q pg n v)
section FI
variable {d : Nat} {hh : AH} {h : AH} {T : Nat → Bool} {U S A : Nat → Nat → Int32} {J : Nat → Nat → Int64} {G : Nat → Nat} {K : AO → AH → Prop} {b c s t n k : Nat} {x y z w : Int32} {f q pg : Nat → Int32} {a sa : Nat → Nat → Int32}
theorem s_ttf_loop (hb : isLine b = true) (hs : SUp h T (G b) t q sa n pg) {N : Nat} (hN : N ≤ 300) : ∀ m k U f a, k + m = N → zn (f 2) ≤ 20 → Ev (d + 6) 16 2 [some (.ref b), some (.int (nI N)), some (.int (nI k))] [] (MH h T U (pS S b f) (pA A b a) J G) K =
    K (.inl (some (.int (ttfF sa q pg n k m (U (t + 2), f, a)).1))) (MH h T (upf U (t + 2) (ttfF sa q pg n k m (U (t + 2), f, a)).2.1) (pS S b (ttfF sa q pg n k m (U (t + 2), f, a)).2.2.1) (pA A b (ttfF sa q pg n k m (U (t + 2), f, a)).2.2.2) J G)
  | 0, k, U, f, a, hk, hn => by
    have ek : k = N := by omega
    subst ek
    rw [i16_2]
    simp only [in16, i16_0, i16_1, i16_3, i16_4, i16_7, i16_8, i16_11, i16_14, i16_15, i16_16, i16_17, i16_20, i16_23, i16_26, i16_27, i16_30, i16_33, i16_34, i16_37, i16_38, nl_i, nl_r, nl_0, nl_j, nb0, nb1, nbI, orv_s, konN_v, konN_n, konN_e, true_and, and_true, and_self, if_true, if_false, ite_true, ite_false, isR_ref, true_or, or_true, isR_null, rg10, rg11, rg12, rg13, rg14, rg15, rg16, rh13, rh14, rh15, rh16, k_l0 hb, k_l1 hb, k_l2 hb, k_l3 hb, k_l4 hb, k_l5 hb, k_l6 hb, k_l7 hb, k_l8 hb, k_l9 hb, k_l10 hb, l_l1 hb, l_l2 hb, l_l3 hb, l_l4 hb, l_l5 hb, l_l6 hb, l_l7 hb, l_l8 hb, l_l9 hb, l_l10 hb, a_l1 hb, a_l2 hb, a_l3 hb, a_l4 hb, a_l5 hb, a_l6 hb, a_l7 hb, a_l8 hb, a_l9 hb, a_l10 hb, wa_l1 hb, wa_l2 hb, wa_l3 hb, wa_l4 hb, wa_l5 hb, wa_l6 hb, wa_l7 hb, wa_l8 hb, wa_l9 hb, wa_l10 hb, f_l0 hb, f_l1 hb, f_l2 hb, f_l3 hb, f_l4 hb, f_l5 hb, f_l6 hb, f_l7 hb, f_l8 hb, f_l9 hb, f_l10 hb, f_l11 hb, f_l12 hb, f_l13 hb, f_l14 hb, w_l0 hb, w_l1 hb, w_l2 hb, w_l3 hb, w_l4 hb, pS_b, pS_up, pA_1, pA_2, pA_3, pA_4, pA_5, pA_6, pA_7, pA_8, pA_9, pA_10, pU_1, pU_2, pU_3, pU_4, pU_5, pU_6, pU_7, pU_8, pU_9, pU_10, mh_N, mh_S, mh_X, mh_alH, nI_le_zn (show k < 2 ^ 31 by omega), nI_clamp (show k < 2 ^ 31 by omega), Nat.lt_irrefl, not_false_eq_true, s_isFinished hb hn, bI_0]
    by_cases h1 : finB (a 6) 0 (zn (f 2)) = true
    · have e : ttfF sa q pg n k 0 (U (t + 2), f, a) = (nI k, U (t + 2), f, a) := Prod.ext (if_pos h1) rfl
      rw [if_neg (fun z => z h1), e, upf_id]
    · have e : ttfF sa q pg n k 0 (U (t + 2), f, a) = (-1, U (t + 2), f, a) := Prod.ext (if_neg h1) rfl
      rw [if_pos h1, e, upf_id]
  | m + 1, k, U, f, a, hk, hn => by
    rw [i16_2]
    simp only [in16, i16_0, i16_1, i16_3, i16_4, i16_7, i16_8, i16_11, i16_14, i16_15, i16_16, i16_17, i16_20, i16_23, i16_26, i16_27, i16_30, i16_33, i16_34, i16_37, i16_38, nl_i, nl_r, nl_0, nl_j, nb0, nb1, nbI, orv_s, konN_v, konN_n, konN_e, true_and, and_true, and_self, if_true, if_false, ite_true, ite_false, isR_ref, true_or, or_true, isR_null, rg10, rg11, rg12, rg13, rg14, rg15, rg16, rh13, rh14, rh15, rh16, k_l0 hb, k_l1 hb, k_l2 hb, k_l3 hb, k_l4 hb, k_l5 hb, k_l6 hb, k_l7 hb, k_l8 hb, k_l9 hb, k_l10 hb, l_l1 hb, l_l2 hb, l_l3 hb, l_l4 hb, l_l5 hb, l_l6 hb, l_l7 hb, l_l8 hb, l_l9 hb, l_l10 hb, a_l1 hb, a_l2 hb, a_l3 hb, a_l4 hb, a_l5 hb, a_l6 hb, a_l7 hb, a_l8 hb, a_l9 hb, a_l10 hb, wa_l1 hb, wa_l2 hb, wa_l3 hb, wa_l4 hb, wa_l5 hb, wa_l6 hb, wa_l7 hb, wa_l8 hb, wa_l9 hb, wa_l10 hb, f_l0 hb, f_l1 hb, f_l2 hb, f_l3 hb, f_l4 hb, f_l5 hb, f_l6 hb, f_l7 hb, f_l8 hb, f_l9 hb, f_l10 hb, f_l11 hb, f_l12 hb, f_l13 hb, f_l14 hb, w_l0 hb, w_l1 hb, w_l2 hb, w_l3 hb, w_l4 hb, pS_b, pS_up, pA_1, pA_2, pA_3, pA_4, pA_5, pA_6, pA_7, pA_8, pA_9, pA_10, pU_1, pU_2, pU_3, pU_4, pU_5, pU_6, pU_7, pU_8, pU_9, pU_10, mh_N, mh_S, mh_X, mh_alH, nI_le_zn (show k < 2 ^ 31 by omega), nI_clamp (show N < 2 ^ 31 by omega), show k < N by omega, not_true, s_isFinished hb hn, bI_0, s_tick hb hs hn, ← nI_succ]
    by_cases h1 : finB (a 6) 0 (zn (f 2)) = true
    · have e : ttfF sa q pg n k (m + 1) (U (t + 2), f, a) = (nI k, U (t + 2), f, a) := if_pos h1
      rw [if_neg (fun z => z h1), e, upf_id]
    · have e : ttfF sa q pg n k (m + 1) (U (t + 2), f, a) = ttfF sa q pg n (k + 1) m (tickL sa q pg n (U (t + 2), f, a)) := if_neg h1
      rw [if_pos h1, e, s_ttf_loop hb hs hN m (k + 1) _ _ _ (by omega) (by rw [tick_2]; exact hn), upf_same, upf_upf]
theorem s_ttf (hb : isLine b = true) (hs : SUp h T (G b) t q sa n pg) {N : Nat} (hN : N ≤ 300) (hn : zn (f 2) ≤ 20) : EvM (d + 6) 16 [.ref b, .int (nI N)] (MH h T U (pS S b f) (pA A b a) J G) K =
    K (.inl (some (.int (ttfF sa q pg n 0 N (U (t + 2), f, a)).1))) (MH h T (upf U (t + 2) (ttfF sa q pg n 0 N (U (t + 2), f, a)).2.1) (pS S b (ttfF sa q pg n 0 N (U (t + 2), f, a)).2.2.1) (pA A b (ttfF sa q pg n 0 N (U (t + 2), f, a)).2.2.2) J G) := by
  have key := s_ttf_loop (d := d) (S := S) (A := A) (J := J) (K := K) hb hs hN N 0 U f a (by omega) hn
  rw [nI_0] at key
  simp only [in16, i16_0, i16_1, i16_3, i16_4, i16_7, i16_8, i16_11, i16_14, i16_15, i16_16, i16_17, i16_20, i16_23, i16_26, i16_27, i16_30, i16_33, i16_34, i16_37, i16_38, nl_i, nl_r, nl_0, nl_j, nb0, nb1, nbI, orv_s, konN_v, konN_n, konN_e, true_and, and_true, and_self, if_true, if_false, ite_true, ite_false, isR_ref, true_or, or_true, isR_null, rg10, rg11, rg12, rg13, rg14, rg15, rg16, rh13, rh14, rh15, rh16, k_l0 hb, k_l1 hb, k_l2 hb, k_l3 hb, k_l4 hb, k_l5 hb, k_l6 hb, k_l7 hb, k_l8 hb, k_l9 hb, k_l10 hb, l_l1 hb, l_l2 hb, l_l3 hb, l_l4 hb, l_l5 hb, l_l6 hb, l_l7 hb, l_l8 hb, l_l9 hb, l_l10 hb, a_l1 hb, a_l2 hb, a_l3 hb, a_l4 hb, a_l5 hb, a_l6 hb, a_l7 hb, a_l8 hb, a_l9 hb, a_l10 hb, wa_l1 hb, wa_l2 hb, wa_l3 hb, wa_l4 hb, wa_l5 hb, wa_l6 hb, wa_l7 hb, wa_l8 hb, wa_l9 hb, wa_l10 hb, f_l0 hb, f_l1 hb, f_l2 hb, f_l3 hb, f_l4 hb, f_l5 hb, f_l6 hb, f_l7 hb, f_l8 hb, f_l9 hb, f_l10 hb, f_l11 hb, f_l12 hb, f_l13 hb, f_l14 hb, w_l0 hb, w_l1 hb, w_l2 hb, w_l3 hb, w_l4 hb, pS_b, pS_up, pA_1, pA_2, pA_3, pA_4, pA_5, pA_6, pA_7, pA_8, pA_9, pA_10, pU_1, pU_2, pU_3, pU_4, pU_5, pU_6, pU_7, pU_8, pU_9, pU_10, mh_N, mh_S, mh_X, mh_alH, key]
end FI
