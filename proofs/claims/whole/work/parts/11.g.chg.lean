/-! FACE: a line that is kept and then changed -/
def Sr (S : Nat → Nat → Int32) (nx kp : Nat) : Nat → Nat → Int32 := up2 (up2 (pS S (52 + 11 * nx) (S 28)) 50 1 (nI ((nx + 1) % 8))) 50 2 (nI (min (kp + 1) 8))
def Ar (A : Nat → Nat → Int32) (nx : Nat) : Nat → Nat → Int32 := pA A (52 + 11 * nx) (fun j => A (28 + j))
def Gr (G : Nat → Nat) (nx : Nat) : Nat → Nat := upf G (52 + 11 * nx) (G 28)
def Sm (S : Nat → Nat → Int32) (kp : Nat) : Nat → Nat → Int32 := up2 (up2 S 140 0 0) 140 12 (nI (min (kp + 1) 8))
theorem pA_o {A a : Nat → Nat → Int32} {b i : Nat} (h : i ≤ b ∨ b + 10 < i) : pA A b a i = A i := if_neg (by omega)
section CH
variable {d : Nat} {h h' : AH} {T T' : Nat → Bool} {U U' S A A3 : Nat → Nat → Int32} {J J' : Nat → Nat → Int64} {G : Nat → Nat} {K : AO → AH → Prop} {nx kp g : Nat} {f D : Nat → Int32} {a : Nat → Nat → Int32} {x : Int32}
theorem sr_o {i k : Nat} (h1 : ¬ i = 52 + 11 * nx) (h2 : ¬ i = 50) : Sr S nx kp i k = S i k := by
  unfold Sr
  rw [up2_ne (fun z => h2 z.1), up2_ne (fun z => h2 z.1), pS_ne h1]
theorem sr_b {i : Nat} (h1 : ¬ i = 52 + 11 * nx) (h2 : ¬ i = 50) : Sr S nx kp i = S i := funext fun k => sr_o h1 h2
theorem p_remember (hx : S 50 1 = nI nx) (hx8 : nx < 8) (hk : S 50 2 = nI kp) (hk8 : kp ≤ 8) : EvM (d + 2) 4 [.ref 50, .ref 28] (MH h T U S A J G) K =
    K (.inl none) (MH h T U (pS (Sr S nx kp) 28 (S 28)) (pA (Ar A nx) 28 (fun j => A (28 + j))) J (Gr G nx)) := by
  rw [s_remember hx hx8 hk hk8]
  have e1 : pS (Sr S nx kp) 28 (S 28) = Sr S nx kp := by
    have := sr_b (S := S) (kp := kp) (show ¬ 28 = 52 + 11 * nx by omega) (show ¬ 28 = 50 by decide)
    rw [← this]
    exact pS_id
  have e2 : pA (Ar A nx) 28 (fun j => A (28 + j)) = Ar A nx := by
    funext i
    unfold pA
    split
    · rename_i e
      show A (28 + (i - 28)) = Ar A nx i
      unfold Ar
      rw [pA_o (by omega), show 28 + (i - 28) = i by omega]
    · rfl
  rw [e1, e2]
  rfl
/-- after a remembered change the invariant stands -/
theorem GR_chg (h156 : 156 ≤ hN h) (hfr : fr (hN h) h h') (hfT : frT (hN h) T T') (hle : hN h ≤ hN h') (hT : ∀ i, hN h' ≤ i → T' i = false) {S1 A4 : Nat → Nat → Int32} (hR : RR S1 A4)
    (hn : nx < 8) (hk : kp ≤ 8) (hL : LR h T (G 28) (S 28) (fun j => A (28 + j)) (A 142)) (H : ∀ i, i < kp → LR h T (G (rwI nx kp i)) (S (rwI nx kp i)) (fun j => A (rwI nx kp i + j)) (A (146 + i)))
    (hS : ∀ b k, 50 ≤ b → b ≤ 139 → S1 b k = Sr S nx kp b k) (h12 : S1 140 12 = nI (min (kp + 1) 8))
    (hA : ∀ i, 52 ≤ i → i ≤ 139 → A4 i = Ar A nx i) (hd : deq (A 142) (A4 (146 + (min (kp + 1) 8 - 1)))) (hd2 : ∀ i, i + 1 < min (kp + 1) 8 → deq (A (146 + (if kp = 8 then i + 1 else i))) (A4 (146 + i)))
    (hL' : LR h' T' g (S1 28) (fun j => A4 (28 + j)) (A4 142)) : GR h' T' S1 A4 (upf (Gr G nx) 28 g) := by
  have hH : HR h T S1 A4 (upf (Gr G nx) 28 g) := by
    refine HR_push hn hk hL H ?_ ?_ h12 (fun r r8 rn => ?_) ?_ (fun r j r8 rn j1 j2 => ?_) (fun j j1 j2 => ?_) (fun r r8 rn => ?_) ?_ hd hd2
    · rw [hS 50 1 (by omega) (by omega)]
      unfold Sr
      rw [up2_ne (by decide), up2_same]
    · rw [hS 50 2 (by omega) (by omega)]
      unfold Sr
      rw [up2_same]
    · exact funext fun k => (hS _ k (by omega) (by omega)).trans (sr_o (by omega) (by omega))
    · refine funext fun k => (hS _ k (by omega) (by omega)).trans ?_
      unfold Sr
      rw [up2_ne (fun z => by omega), up2_ne (fun z => by omega)]
      exact if_pos rfl
    · rw [hA _ (by omega) (by omega)]
      unfold Ar
      exact pA_o (by omega)
    · rw [hA _ (by omega) (by omega)]
      unfold Ar
      exact pA_g j1 j2
    · rw [upf_ne _ _ (by omega)]
      unfold Gr
      exact upf_ne _ _ (by omega)
    · rw [upf_ne _ _ (by omega)]
      unfold Gr
      exact upf_same _ _ _
  refine ⟨⟨by omega, hT⟩, ?_, hR, HR_cg hH hfr hfT hle (fun _ _ _ _ => rfl) rfl (fun _ _ _ => rfl) (fun _ _ _ => deq_id) (fun _ _ _ => rfl)⟩
  rw [upf_same]
  exact hL'
theorem m_rem (hn : nx < 8) (hk : kp ≤ 8) (e1 : S 50 1 = nI nx) (e2 : S 50 2 = nI kp) (e3 : S 140 12 = nI kp) (H : ∀ i, i < kp → LR h T (G (rwI nx kp i)) (S (rwI nx kp i)) (fun j => A (rwI nx kp i + j)) (A (146 + i))) (hG : GR h T S A G)
    (f : Nat → Int32) (a : Nat → Nat → Int32) : ∃ A3 : Nat → Nat → Int32,
    (∀ d K, EvM (d + 2) 156 [.ref 140] (MH h T U (up2 (pS (Sr S nx kp) 28 f) 140 0 0) (pA (Ar A nx) 28 a) J (Gr G nx)) K = K (.inl none) (MH h T U (Sm (pS (Sr S nx kp) 28 f) kp) A3 J (Gr G nx))) ∧ A3 142 = A 142 ∧
      ∀ (D : Nat → Int32) (U0 U' : Nat → Nat → Int32) (J0 J' : Nat → Nat → Int64), LR h T (G 28) f a D → GN (h, T, U0, S, A, J0, G) (h, T, U', Sm (pS (Sr S nx kp) 28 f) kp, upf A3 142 D, J', Gr G nx) := by
  have s12 : up2 (pS (Sr S nx kp) 28 f) 140 0 0 140 12 = nI kp := by
    rw [up2_ne (by decide), pS_ne (by decide), sr_o (by omega) (by omega)]
    exact e3
  obtain ⟨A3, r, a1, a2, a3⟩ := s_mRem (h := h) (T := T) (U := U) (A := pA (Ar A nx) 28 a) (J := J) (G := Gr G nx) s12 hk
  have ao : ∀ i, 139 < i → pA (Ar A nx) 28 a i = A i := fun i hi => by
    rw [pA_o (by omega)]
    unfold Ar
    exact pA_o (by omega)
  refine ⟨A3, r, (a1 142 (by omega)).trans (ao 142 (by omega)), fun D U0 U' J0 J' hL => ⟨?_, Nat.le_refl _, Nat.le_add_right _ _, Nat.le_add_right _ _, rfl⟩⟩
  obtain ⟨⟨g1, g2⟩, gL, ⟨fl, c1, ⟨c2, c3⟩, c4, c5⟩, -⟩ := hG
  have hS28 : Sm (pS (Sr S nx kp) 28 f) kp 28 = f := by
    funext k
    unfold Sm
    rw [up2_ne (fun z => absurd z.1 (by decide)), up2_ne (fun z => absurd z.1 (by decide))]
    exact if_pos rfl
  have hSo : ∀ i k, ¬ i = 28 → ¬ (i = 140 ∧ (k = 0 ∨ k = 12)) → Sm (pS (Sr S nx kp) 28 f) kp i k = Sr S nx kp i k := fun i k i1 i2 => by
    unfold Sm
    rw [up2_ne (fun z => i2 ⟨z.1, Or.inr z.2⟩), up2_ne (fun z => i2 ⟨z.1, Or.inl z.2⟩), pS_ne i1]
  have hS12 : Sm (pS (Sr S nx kp) 28 f) kp 140 12 = nI (min (kp + 1) 8) := up2_same
  have eG : Gr G nx = upf (Gr G nx) 28 (G 28) := by
    have : Gr G nx 28 = G 28 := upf_ne _ _ (by omega)
    rw [← this, upf_id]
  show GR h T (Sm (pS (Sr S nx kp) 28 f) kp) (upf A3 142 D) (Gr G nx)
  rw [eG]
  refine GR_chg g1 fr_id frT_id (Nat.le_refl _) g2 ⟨fl, c1, ⟨?_, ?_⟩, ?_, ?_⟩ hn hk gL H (fun b k b1 b2 => hSo b k (by omega) (by omega)) hS12 (fun i i1 i2 => ?_) ?_ (fun i hi => ?_) ?_
  · rw [hSo _ _ (by decide) (by decide), sr_o (by omega) (by omega)]; exact c2
  · rw [hSo _ _ (by decide) (by decide), sr_o (by omega) (by omega)]; exact c3
  · rw [hSo _ _ (by decide) (by decide), sr_o (by omega) (by omega), hSo _ _ (by decide) (by decide), sr_o (by omega) (by omega)]; exact c4
  · rw [upf_ne _ _ (by decide), upf_ne _ _ (by decide), a1 14 (by omega), a1 141 (by omega), ao 141 (by omega), pA_o (by omega)]
    unfold Ar
    rw [pA_o (by omega)]
    exact c5
  · rw [upf_ne _ _ (by omega), a1 i (by omega)]
    exact pA_o (by omega)
  · rw [upf_ne _ _ (by omega)]
    rw [ao 142 (by omega)] at a2
    exact a2
  · rw [upf_ne _ _ (by omega)]
    have := a3 i hi
    rw [ao _ (by omega)] at this
    exact this
  · rw [hS28, upf_same]
    exact LR_cg hL fr_id frT_id (Nat.le_refl _) (fun j j1 j2 => by
      show upf A3 142 D (28 + j) = a j
      rw [upf_ne _ _ (by omega), a1 _ (by omega), pA_g j1 j2]) deq_id
end CH
