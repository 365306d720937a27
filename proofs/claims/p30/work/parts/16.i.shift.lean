/-! THE LAW'S LOOP: the kept lines move on -/
section CSX
variable {T : Nat → Bool} {J : Nat → Nat → Int64} {B W : Nat → Prop} {l nz r bf s t m lp : Nat} {q : Nat → Int32} {sa : Nat → Nat → Int32} {pg : Nat → Int32} {tv : Value} {g g' : AH} {U U' S S' A A' : Nat → Nat → Int32} {G G' : Nat → Nat} {D D' : Nat → Nat → Nat} {ns ns' nx kp nx' kp' ck ck' i j : Nat} {p p' f f' : Nat → Int32} {a a' : Nat → Nat → Int32} {l2 l4 l8 l9 l13 l14 l15 l16 l17 l18 l19 l20 l21 l22 l23 l24 : Option Value} {w : ULt}
variable {l10 l11 l12 : Option Value} {lp0 done n k : Nat} {ex0 : Int32}
theorem HK.put {np : Nat} {Dp : Nat → Nat → Nat} {pp : Nat → Int32} (h : HK T B l nz r bf s m q sa pg tv g S A G D ns nx done) (hs : Sm (fun i => i = bf) g g') (hB : ∀ i, B i → ¬ i = bf) (hsh : ∀ k, 1 ≤ k → k < 9 → hR g' bf k = hR g bf (k - 1)) (h0 : hR g' bf 0 = some lp) (hL : LLn g' B lp Dp nz np q sa tv pg m (S 28) (fun j => A (28 + j)) pp) (hA : ∀ i, Ad lp Dp nz np i → ¬ Lw l D nz ns r bf i ∧ ¬ CW T i) (hG : G 28 = s) (hn : nx < 8) : HK T B l nz r bf s m q sa pg tv g' (pS (Sr S nx kp) 28 f') (pA (Ar A nx) 28 a') (Gr G nx) D ns ((nx + 1) % 8) (done + 1) := by
  intro k k8 kd
  by_cases e : k = 0
  · subst e
    have er : rw8 ((nx + 1) % 8) 0 = 52 + 11 * nx := by unfold rw8; omega
    obtain ⟨r1, r2, r3⟩ := row_new (S := S) (A := A) (G := G) (kp := kp) (f' := f') (a' := a') hn
    refine ⟨lp, Dp, np, pp, h0, ?_, hA, ?_⟩
    · rw [er, r1]
      exact hL.ca (fun j j1 j2 => r2 j j1 j2)
    · rw [er, r3]
      exact hG
  · obtain ⟨v, Dk, nk, pk, h1, h2, h3, h4⟩ := h (k - 1) (by omega) (by omega)
    obtain ⟨i, ei, hi⟩ : ∃ i, rw8 nx (k - 1) = 52 + 11 * i ∧ rw8 ((nx + 1) % 8) k = 52 + 11 * i ∧ ¬ i = nx := ⟨(nx + 7 - (k - 1)) % 8, rfl, by unfold rw8; omega, by omega⟩
    obtain ⟨r1, r2, r3⟩ := row_old (S := S) (A := A) (G := G) (kp := kp) (f' := f') (a' := a') hn hi.2
    rw [ei] at h2 h4
    refine ⟨v, Dk, nk, pk, (hsh k (by omega) (by omega)).trans h1, ?_, h3, ?_⟩
    · rw [hi.1, r1]
      exact (h2.keep hs hB (fun i hi w => (h3 i hi).1 (Or.inr (Or.inr w)))).ca (fun j j1 j2 => r2 j j1 j2)
    · rw [hi.1, r3]
      exact h4
theorem s_shift (hb : HB g bf) (hbN : bf < hN g) : ∀ k (g1 : AH), k ≤ 8 → (Sm (fun i => i = bf) g g1 ∧ hN g1 = hN g ∧ hS g1 = hS g) → (∀ j, j ≤ k → hR g1 bf j = hR g bf j) → (∀ j, k < j → j < 9 → hR g1 bf j = hR g bf (j - 1)) → ∃ g2, (Sm (fun i => i = bf) g g2 ∧ hN g2 = hN g ∧ hS g2 = hS g) ∧ (∀ j, 1 ≤ j → j < 9 → hR g2 bf j = hR g bf (j - 1)) ∧ ∀ d Q, Es (d + 30) 142 934 [some scrV, some (.int 1), l2, some (.ref 0), l4, some (.ref r), some (.ref l), some (.ref bf), l8, l9, some (.ref lp), some (.int 1), some (.int ex0), some (.int (nI k)), l14, l15, l16, l17, l18, l19, l20, l21, l22, l23, l24] [] g1 Q = Es (d + 30) 142 957 [some scrV, some (.int 1), l2, some (.ref 0), l4, some (.ref r), some (.ref l), some (.ref bf), l8, l9, some (.ref lp), some (.int 1), some (.int ex0), some (.int 0), l14, l15, l16, l17, l18, l19, l20, l21, l22, l23, l24] [] g2 Q
  | 0, g1, h8, hs, h1, h2 => by
    refine ⟨g1, hs, fun j j1 j2 => h2 j (by omega) j2, fun d Q => ?_⟩
    rw [nI_0, e142_934]
    simp only [e142_936, e142_939, e142_941, e142_943, e142_945, e142_947, e142_948, e142_949, e142_950, e142_950_N, e142_951, e142_954, nl_i, nl_r, nl_0, nl_j, nb0, nb1, nbI, orv_s, konN_v, konN_n, konN_e, true_and, and_true, and_self, if_true, if_false, ite_true, ite_false, isR_ref, true_or, or_true, isR_null, rg10, rg11, rg12, rg13, rg14, rg15, rg16, rh13, rh14, rh15, rh16, bI_T, bI_F, bI_Fb, i1z, Bool.false_eq_true, ksN_v, ksN_n, nl_scr, show ((0 : Int32) ≤ 0) = True from eq_true (by decide)]
  | k + 1, g1, h8, hs, h1, h2 => by
    have kb : hk g1 bf = 16 := (hs.1.k hbN).trans hb.1.1
    have lb : hl g1 bf = 9 := (hs.1.l hbN).trans hb.1.2
    have c : (nI (k + 1) ≤ 0) = False := eq_false (fun z => by
      have := (nI_leI (a := k + 1) (b := 0) (by omega) (by omega)).mp z
      omega)
    have z0 : zn (nI k) = k := zn_nI (by omega)
    have z1 : zn (nI (k + 1)) = k + 1 := zn_nI (by omega)
    have i0 : inb (nI k) 9 = True := inbT (by omega) (by omega)
    have i1 : inb (nI (k + 1)) 9 = True := inbT (by omega) (by omega)
    have hRk := h1 k (by omega)
    have st : ∀ w : Option Nat, w = hR g bf k → (∃ g2, (Sm (fun i => i = bf) g g2 ∧ hN g2 = hN g ∧ hS g2 = hS g) ∧ (∀ j, 1 ≤ j → j < 9 → hR g2 bf j = hR g bf (j - 1)) ∧ ∀ d Q, Es (d + 30) 142 934 [some scrV, some (.int 1), l2, some (.ref 0), l4, some (.ref r), some (.ref l), some (.ref bf), l8, l9, some (.ref lp), some (.int 1), some (.int ex0), some (.int (nI k)), l14, l15, l16, l17, l18, l19, l20, l21, l22, l23, l24] [] (wR g1 bf (va_up (hR g1 bf) (k + 1) w)) Q = Es (d + 30) 142 957 [some scrV, some (.int 1), l2, some (.ref 0), l4, some (.ref r), some (.ref l), some (.ref bf), l8, l9, some (.ref lp), some (.int 1), some (.int ex0), some (.int 0), l14, l15, l16, l17, l18, l19, l20, l21, l22, l23, l24] [] g2 Q) := fun w hw => by
      have e1 : hR (wR g1 bf (va_up (hR g1 bf) (k + 1) w)) bf = va_up (hR g1 bf) (k + 1) w := wR_eq
      refine s_shift hb hbN k (wR g1 bf (va_up (hR g1 bf) (k + 1) w)) (by omega) ⟨hs.1.tr (Sm.wR rfl), hs.2⟩ (fun j hj => ?_) (fun j j1 j2 => ?_)
      · rw [e1, va_up_n (by omega)]
        exact h1 j (by omega)
      · rw [e1]
        by_cases e : j = k + 1
        · rw [e, va_up_e, hw]
          rfl
        · rw [va_up_n e]
          exact h2 j (by omega) j2
    rcases hb.2 k (by omega) with hv | ⟨v, hv, hv2, hv3⟩
    · obtain ⟨g2, t1, t2, t3⟩ := st none hv.symm
      refine ⟨g2, t1, t2, fun d Q => ?_⟩
      rw [hv] at hRk
      rw [e142_934]
      simp only [e142_936, e142_939, e142_941, e142_943, e142_945, e142_947, e142_948, e142_949, e142_950, e142_950_N, e142_951, e142_954, nl_i, nl_r, nl_0, nl_j, nb0, nb1, nbI, orv_s, konN_v, konN_n, konN_e, true_and, and_true, and_self, if_true, if_false, ite_true, ite_false, isR_ref, true_or, or_true, isR_null, rg10, rg11, rg12, rg13, rg14, rg15, rg16, rh13, rh14, rh15, rh16, bI_T, bI_F, bI_Fb, i1z, Bool.false_eq_true, ksN_v, ksN_n, nl_scr, c, kb, lb, z0, z1, i0, i1, nI_pred, nI_m1, hRk, orv_n, or_true]
      exact t3 d Q
    · obtain ⟨g2, t1, t2, t3⟩ := st (some v) hv.symm
      refine ⟨g2, t1, t2, fun d Q => ?_⟩
      rw [hv] at hRk
      have kv : hk g1 v = 7 := (hs.1.k hv3).trans hv2
      rw [e142_934]
      simp only [e142_936, e142_939, e142_941, e142_943, e142_945, e142_947, e142_948, e142_949, e142_950, e142_950_N, e142_951, e142_954, nl_i, nl_r, nl_0, nl_j, nb0, nb1, nbI, orv_s, konN_v, konN_n, konN_e, true_and, and_true, and_self, if_true, if_false, ite_true, ite_false, isR_ref, true_or, or_true, isR_null, rg10, rg11, rg12, rg13, rg14, rg15, rg16, rh13, rh14, rh15, rh16, bI_T, bI_F, bI_Fb, i1z, Bool.false_eq_true, ksN_v, ksN_n, nl_scr, c, kb, lb, z0, z1, i0, i1, nI_pred, nI_m1, hRk, orv_s, kv]
      exact t3 d Q
end CSX
