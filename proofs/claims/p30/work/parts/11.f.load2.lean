/-! FACE: the class's form of a heap -/
/-- the class's part of the heap g -/
def FX (g : AH) (T : Nat → Bool) (U S A : Nat → Nat → Int32) (J : Nat → Nat → Int64) (G : Nat → Nat) : Prop := g = MH g T U S A J G ∧ (∀ i, T i = true → i < hN g) ∧ 140 ≤ hN g
def CW (T : Nat → Bool) (i : Nat) : Prop := own i = true ∨ T i = true
section FXS
variable {g g' h h2 : AH} {T T2 : Nat → Bool} {U U' S S' A A' : Nat → Nat → Int32} {J J' : Nat → Nat → Int64} {G G' : Nat → Nat} {W : Nat → Prop}
theorem mh_idem : MH (MH h T U S A J G) T U' S' A' J' G' = MH h T U' S' A' J' G' := by
  refine ah_ext rfl rfl (fun i => ?_) (fun i k => ?_) (fun i => ?_) (fun i => ?_) (fun i => ?_) rfl
  · show (if own i = true then okl i else if own i = true then okl i else h.2.2.1 i) = (if own i = true then okl i else h.2.2.1 i)
    split <;> rfl
  · show (if own i = true then oF1 S' G' i k else if own i = true then oF1 S G i k else h.2.2.2.1 i k) = (if own i = true then oF1 S' G' i k else h.2.2.2.1 i k)
    split <;> rfl
  · show (if own i = true then A' i else if T i = true then U' i else if own i = true then A i else if T i = true then U i else h.2.2.2.2.1 i) = (if own i = true then A' i else if T i = true then U' i else h.2.2.2.2.1 i)
    split
    · rfl
    · split <;> rfl
  · show (if own i = true then J' i else if own i = true then J i else h.2.2.2.2.2.1 i) = (if own i = true then J' i else h.2.2.2.2.2.1 i)
    split <;> rfl
  · show (if own i = true then oR1 i else if own i = true then oR1 i else h.2.2.2.2.2.2.1 i) = (if own i = true then oR1 i else h.2.2.2.2.2.2.1 i)
    split <;> rfl
theorem own_lt {i : Nat} (h : own i = true) : i < 140 := by
  rcases Nat.lt_or_ge i 140 with h1 | h1
  · exact h1
  · rw [own_big h1] at h
    exact absurd h (by decide)
/-- what the law writes keeps the class's part -/
theorem FX.law (x : FX g T U S A J G) (hs : Sm W g g') (hw : ∀ i, CW T i → ¬ W i) : FX g' T U S A J G := by
  obtain ⟨x1, x2, x3⟩ := x
  have o : ∀ i, own i = true → i < hN g ∧ ¬ W i := fun i hi => ⟨by have := own_lt hi; omega, hw i (Or.inl hi)⟩
  refine ⟨?_, fun i hi => Nat.lt_of_lt_of_le (x2 i hi) hs.1, Nat.le_trans x3 hs.1⟩
  refine ah_ext rfl rfl (fun i => ?_) (fun i k => ?_) (fun i => ?_) (fun i => ?_) (fun i => ?_) rfl
  · show g'.2.2.1 i = (if own i = true then okl i else g'.2.2.1 i)
    split
    · rename_i hi
      have y := hs.2.2.2.1 i (o i hi).1
      have e : g.2.2.1 i = okl i := by
        have := congrArg (fun z : AH => z.2.2.1 i) x1
        exact this.trans (if_pos hi)
      rw [← e]
      exact Prod.ext y.1 y.2
    · rfl
  · show g'.2.2.2.1 i k = (if own i = true then oF1 S G i k else g'.2.2.2.1 i k)
    split
    · rename_i hi
      have e : g.2.2.2.1 i k = oF1 S G i k := by
        have := congrArg (fun z : AH => z.2.2.2.1 i k) x1
        exact this.trans (if_pos hi)
      rw [← e]
      exact hs.F (o i hi).1 (o i hi).2
    · rfl
  · show g'.2.2.2.2.1 i = (if own i = true then A i else if T i = true then U i else g'.2.2.2.2.1 i)
    have e := congrArg (fun z : AH => z.2.2.2.2.1 i) x1
    have e : g.2.2.2.2.1 i = (if own i = true then A i else if T i = true then U i else g.2.2.2.2.1 i) := e
    by_cases hi : own i = true
    · rw [if_pos hi] at e ⊢
      rw [← e]
      exact hs.A (o i hi).1 (o i hi).2
    · rw [if_neg hi] at e ⊢
      by_cases ht : T i = true
      · rw [if_pos ht] at e ⊢
        rw [← e]
        exact hs.A (x2 i ht) (hw i (Or.inr ht))
      · rw [if_neg ht]
  · show g'.2.2.2.2.2.1 i = (if own i = true then J i else g'.2.2.2.2.2.1 i)
    split
    · rename_i hi
      have e : g.2.2.2.2.2.1 i = J i := by
        have := congrArg (fun z : AH => z.2.2.2.2.2.1 i) x1
        exact this.trans (if_pos hi)
      rw [← e]
      exact (hs.2.2.2.2 i (o i hi).1 (o i hi).2).2.2.1
    · rfl
  · show g'.2.2.2.2.2.2.1 i = (if own i = true then oR1 i else g'.2.2.2.2.2.2.1 i)
    split
    · rename_i hi
      have e : g.2.2.2.2.2.2.1 i = oR1 i := by
        have := congrArg (fun z : AH => z.2.2.2.2.2.2.1 i) x1
        exact this.trans (if_pos hi)
      rw [← e]
      exact hs.R (o i hi).1 (o i hi).2
    · rfl
/-- what the class writes -/
theorem mh_Sm (hT : ∀ i, i < hN h → T2 i = T i) (hs : Sm (CW T) h h2) : Sm (CW T) (MH h T U S A J G) (MH h2 T2 U' S' A' J' G') := by
  refine ⟨hs.1, hs.2.1, hs.2.2.1, fun i hi => ?_, fun i hi hw => ?_⟩
  · have hi : i < hN h := hi
    by_cases o : own i = true
    · exact ⟨(mh_k o).trans (mh_k o).symm, (mh_l o).trans (mh_l o).symm⟩
    · have o : own i = false := Bool.eq_false_iff.mpr o
      rw [mh_kn o, mh_kn o, mh_ln o, mh_ln o]
      exact hs.2.2.2.1 i hi
  · have hi : i < hN h := hi
    have o : own i = false := Bool.eq_false_iff.mpr (fun z => hw (Or.inl z))
    have t : T i = false := Bool.eq_false_iff.mpr (fun z => hw (Or.inr z))
    obtain ⟨y1, y2, y3, y4⟩ := hs.2.2.2.2 i hi hw
    refine ⟨fun k => ?_, ?_, ?_, ?_⟩
    · rw [mh_Fn o, mh_Fn o]; exact y1 k
    · rw [mh_An o t, mh_An o ((hT i hi).trans t)]; exact y2
    · show (if own i = true then J' i else h2.2.2.2.2.2.1 i) = (if own i = true then J i else h.2.2.2.2.2.1 i)
      rw [o]; exact y3
    · show (if own i = true then oR1 i else h2.2.2.2.2.2.2.1 i) = (if own i = true then oR1 i else h.2.2.2.2.2.2.1 i)
      rw [o]; exact y4
theorem FX.cls (x : FX g T U S A J G) : Sm (CW T) g (MH g T U' S' A' J' G') ∧ FX (MH g T U' S' A' J' G') T U' S' A' J' G' := by
  refine ⟨?_, mh_idem.symm, x.2.1, x.2.2⟩
  have e := mh_Sm (h := g) (T := T) (T2 := T) (U := U) (S := S) (A := A) (J := J) (G := G) (U' := U') (S' := S') (A' := A') (J' := J') (G' := G') (fun _ _ => rfl) Sm.rf
  rw [← x.1] at e
  exact e
theorem FX.hole (x : FX g T U S A J G) : FX (alH g) T U S A J G := x.law (W := noW) Sm.alH (fun _ _ z => z)
theorem SUp.mh {s t n : Nat} {q pg : Nat → Int32} {a : Nat → Nat → Int32} (x : SUp h T s t q a n pg) : SUp (MH h T U S A J G) T s t q a n pg := by
  obtain ⟨a1, ⟨o0, o1, o2⟩, ⟨b1, b2⟩, ⟨c1, c2, c3, c4, c5⟩, e, ⟨f1, f2, f3, f4, f5, f6, f7, f8⟩, y⟩ := x
  have s0 := a1 0 (by omega)
  exact ⟨a1, ⟨o0, o1, o2⟩, ⟨b1, b2⟩, ⟨(mh_kn s0.1).trans c1, (mh_Fn s0.1).trans c2, (mh_Fn s0.1).trans c3, (mh_Fn s0.1).trans c4, (mh_Fn s0.1).trans c5⟩,
    fun j j1 j7 => ⟨(mh_Fn s0.1).trans (e j j1 j7).1, (mh_kn (a1 j j7).1).trans (e j j1 j7).2.1, (mh_ln (a1 j j7).1).trans (e j j1 j7).2.2.1, (mh_An (a1 j j7).1 (a1 j j7).2).trans (e j j1 j7).2.2.2⟩,
    ⟨(mh_kn o0).trans f1, (mh_Fn o0).trans f2, (mh_Fn o0).trans f3, (mh_kn o1).trans f4, (mh_ln o1).trans f5, (mh_An o1 b1).trans f6, (mh_kn o2).trans f7, (mh_ln o2).trans f8⟩, y⟩
theorem SUp.keep {s t n : Nat} {q pg : Nat → Int32} {a : Nat → Nat → Int32} (x : SUp g T s t q a n pg) (hs : Sm W g g') (hT : ∀ i, i < hN g → T2 i = T i) (h1 : ∀ j, j ≤ 7 → s + j < hN g ∧ ¬ W (s + j)) (h2 : ∀ j, j ≤ 2 → t + j < hN g ∧ (j < 2 → ¬ W (t + j))) : SUp g' T2 s t q a n pg := by
  obtain ⟨a1, a2, ⟨b1, b2⟩, ⟨c1, c2, c3, c4, c5⟩, e, ⟨f1, f2, f3, f4, f5, f6, f7, f8⟩, y⟩ := x
  have s0 := h1 0 (by omega)
  have t0 := h2 0 (by omega)
  have t1 := h2 1 (by omega)
  have t2 := h2 2 (by omega)
  exact ⟨fun j hj => ⟨(a1 j hj).1, (hT _ (h1 j hj).1).trans (a1 j hj).2⟩, a2, ⟨(hT _ t1.1).trans b1, (hT _ t2.1).trans b2⟩, ⟨(hs.k s0.1).trans c1, (hs.F s0.1 s0.2).trans c2, (hs.F s0.1 s0.2).trans c3, (hs.F s0.1 s0.2).trans c4, (hs.F s0.1 s0.2).trans c5⟩,
    fun j j1 j7 => ⟨(hs.F s0.1 s0.2).trans (e j j1 j7).1, (hs.k (h1 j j7).1).trans (e j j1 j7).2.1, (hs.l (h1 j j7).1).trans (e j j1 j7).2.2.1, (hs.A (h1 j j7).1 (h1 j j7).2).trans (e j j1 j7).2.2.2⟩,
    ⟨(hs.k t0.1).trans f1, (hs.F t0.1 (t0.2 (by omega))).trans f2, (hs.F t0.1 (t0.2 (by omega))).trans f3, (hs.k t1.1).trans f4, (hs.l t1.1).trans f5, (hs.A t1.1 (t1.2 (by omega))).trans f6, (hs.k t2.1).trans f7, (hs.l t2.1).trans f8⟩, y⟩
end FXS
section LDC
variable {g : AH} {T : Nat → Bool} {U S A : Nat → Nat → Int32} {J : Nat → Nat → Int64} {G : Nat → Nat} {n fl q1 q2 nx kp : Nat} {zs : List Z5} {bs : List B3} {ht : List Nat} {B : Nat → Prop} {tv : Value} {L : List Int32}
theorem s_cload (x : FX g T U S A J G) (hn : n ≤ fl) (hfl : fl ≤ 700) (hn10 : 10 ≤ n) (hS13 : S 13 1 = nI fl) (hx : S 50 1 = nI nx) (hx8 : nx < 8) (hkp : S 50 2 = nI kp) (hk8 : kp ≤ 8) (hq1 : 1 ≤ q1 ∧ q1 ≤ 9) (hq2 : q2 ≤ 20) (hz : 1 ≤ zs.length ∧ zs.length ≤ 4) (hzs : ∀ v, v ∈ zs → zoK v) (hbs : ∀ v, v ∈ bs → bdK v) (hht : HtK g B ht tv L) (hAt : At (A 14) n 0 (txT q1 q2 zs bs ht)) :
    ∃ (T2 : Nat → Bool) (U2 S3 A3 : Nat → Nat → Int32) (G3 : Nat → Nat) (t : Nat) (q pg : Nat → Int32) (g' : AH),
      (FX g' T2 U2 S3 A3 J G3 ∧ Sm (CW T) g g' ∧ hN g' ≤ hN g + 15 ∧ hS g' ≤ hS g + 900 ∧ (∀ i, i < hN g → T2 i = T i)) ∧
      (SUp g' T2 (hN g) t q (bAll bs (zAll zs 0 a0)) L.length pg ∧ (hN g + 8 ≤ t ∧ t + 3 ≤ hN g') ∧ (q 0 = nI zs.length ∧ q 1 = nI q1 ∧ q 2 = nI q2) ∧ ∀ j, j < L.length → pg j = L.getD j 0) ∧
      (S3 28 = (startL (bAll bs (zAll zs 0 a0)) (S 28) (fun j => A (28 + j))).1 ∧ (∀ j, 1 ≤ j → j ≤ 10 → A3 (28 + j) = (startL (bAll bs (zAll zs 0 a0)) (S 28) (fun j => A (28 + j))).2 j) ∧ G3 28 = hN g ∧ S3 50 1 = nI ((nx + 1) % 8) ∧ S3 50 2 = nI (min (kp + 1) 8) ∧ S3 13 1 = 0) ∧
      ∀ d K, EvM (d + 17) 53 [.ref 0, .int (nI n)] g K = K (.inl (some (.int (nI zs.length)))) g' := by
  obtain ⟨x1, x2, x3⟩ := x
  have hT : ∀ i, hN g ≤ i → T i = false := fun i hi => Bool.eq_false_iff.mpr (fun z => by have := x2 i z; omega)
  obtain ⟨sc, bg⟩ := s_begin (c := (g, T, U, S, A, J, G)) (r := S 13) (st := A 15) (g := A 14) hn hfl hS13 x3 hT rfl
  obtain ⟨c', t, X1, q, r', st', pg, ⟨hG, b1, b2, b3, b4, b5, b6, b7, b8, b9⟩, c1, c2, ⟨c3, qq, rr, eX1⟩, r1, r2⟩ := rd_all (c := (g, T, U, S, A, J, G)) (g := A 14) (st := A 15) (ec := S 13 7) (nu := S 13 6) (sc := sc) rfl (by omega) hn10 x3 hT hq1 hq2 hz hzs hbs hht hAt
  obtain ⟨g1, T2, U2, S1, A1, J1, G1⟩ := c'
  dsimp only at b1 b2 b3 b4 b5 b6 b7 b8 b9 hG r2
  have b6 := b6.symm
  have b7 := b7.symm
  have b8 := b8.symm
  have b9 := b9.symm
  subst b6; subst b7; subst b8; subst b9
  obtain ⟨h1, h2, h3, h4, h5, h6, h7⟩ := hG
  dsimp only at h1 h2 h3 h4 h5 h6 h7
  have hq6 : 0 ≤ q 0 ∧ zn (q 0) ≤ 6 := by
    rw [c1.1]
    refine ⟨nI_pos' (by omega), ?_⟩
    show (nI zs.length).toNatClampNeg ≤ 6
    rw [nI_clamp (by omega)]
    omega
  have hsu := sup_of (a := bAll bs (zAll zs 0 a0)) h1 h2 h3 hq6
  have hT2 : ∀ i, i < hN g → T2 i = T i := b4
  obtain ⟨gs, hgs⟩ : ∃ y, y = SP g1 (hN g) q (bAll bs (zAll zs 0 a0)) t := ⟨_, rfl⟩
  rw [← hgs] at hsu
  have sgs : Sm (fun i => hN g ≤ i) g gs := by
    rw [hgs]
    exact b1.tr (Sm.SP (fun j _ => Nat.le_add_right _ _))
  have ngs : hN gs = hN g1 := by rw [hgs]; rfl
  have mgs : hS gs = hS g1 := by rw [hgs]; rfl
  obtain ⟨S1', hS1⟩ : ∃ y, y = pS S 13 r' := ⟨_, rfl⟩
  obtain ⟨A1', hA1⟩ : ∃ y, y = upf A 15 st' := ⟨_, rfl⟩
  have x2eq : cH (zC (g1, T2, U2, S, A, J, upf G 13 (hN g)) (hN g) q (bAll bs (zAll zs 0 a0)) t) r' st' = MH gs T2 U2 S1' A1' J (upf G 13 (hN g)) := by
    rw [hgs, hS1, hA1]
    rfl
  rw [x2eq] at r2
  have s28 : S1' 28 = S 28 := by rw [hS1]; funext k; exact pS_ne (by decide)
  have s50 : S1' 50 = S 50 := by rw [hS1]; funext k; exact pS_ne (by decide)
  have a28 : (fun j => A1' (28 + j)) = fun j => A (28 + j) := by rw [hA1]; funext j; exact upf_ne _ _ (by omega)
  have rem := fun d K => p_remember (d := d) (h := gs) (T := T2) (U := U2) (S := S1') (A := A1') (J := J) (G := upf G 13 (hN g)) (K := K) (nx := nx) (kp := kp) (by rw [s50]; exact hx) hx8 (by rw [s50]; exact hkp) hk8
  rw [s28, a28] at rem
  have hsu' : SUp gs T2 (hN g) t q (bAll bs (zAll zs 0 a0)) L.length pg := hsu
  have stw := fun d K => s_startWith (d := d) (h := gs) (T := T2) (U := U2) (S := Sr S1' nx kp) (A := Ar A1' nx) (J := J) (G := Gr (upf G 13 (hN g)) nx) (K := K) (f := S 28) (a := fun j => A (28 + j)) hb28 hsu'
  obtain ⟨g', hg'⟩ : ∃ y, y = MH gs T2 U2 (pS (Sr S1' nx kp) 28 (startL (bAll bs (zAll zs 0 a0)) (S 28) (fun j => A (28 + j))).1) (pA (Ar A1' nx) 28 (startL (bAll bs (zAll zs 0 a0)) (S 28) (fun j => A (28 + j))).2) J (upf (Gr (upf G 13 (hN g)) nx) 28 (hN g)) := ⟨_, rfl⟩
  rw [← hg'] at stw
  have T2b : ∀ i, T2 i = true → i < hN g' := fun i hi => by
    rw [hg']
    show i < hN gs
    rcases b5 i hi with z | z
    · have : hN (g1, T2, U2, S, A, J, upf G 13 (hN g)).fst = hN g1 := rfl
      have z : i < hN g1 := z
      omega
    · have z2 : i < hN g := x2 i z
      have := sgs.1
      omega
  have e13 : S1' 13 1 = 0 := by rw [hS1]; exact (pS_b).trans c3
  have hfx : FX g' T2 U2 (pS (Sr S1' nx kp) 28 (startL (bAll bs (zAll zs 0 a0)) (S 28) (fun j => A (28 + j))).1) (pA (Ar A1' nx) 28 (startL (bAll bs (zAll zs 0 a0)) (S 28) (fun j => A (28 + j))).2) J (upf (Gr (upf G 13 (hN g)) nx) 28 (hN g)) := by
    refine ⟨?_, T2b, ?_⟩
    · rw [hg']; exact mh_idem.symm
    · rw [hg']
      show 140 ≤ hN gs
      have := sgs.1
      omega
  refine ⟨T2, U2, _, _, _, t, q, pg, g', ⟨hfx, ?_, ?_, ?_, hT2⟩, ⟨?_, ⟨h3, ?_⟩, c1, c2⟩, ⟨?_, fun j j1 j10 => pA_g j1 j10, upf_same _ _ _, ?_, ?_, ?_⟩, fun d K => ?_⟩
  · have z := mh_Sm (h := g) (h2 := gs) (T := T) (T2 := T2) (U := U) (S := S) (A := A) (J := J) (G := G) (U' := U2) (S' := pS (Sr S1' nx kp) 28 (startL (bAll bs (zAll zs 0 a0)) (S 28) (fun j => A (28 + j))).1) (A' := pA (Ar A1' nx) 28 (startL (bAll bs (zAll zs 0 a0)) (S 28) (fun j => A (28 + j))).2) (J' := J) (G' := upf (Gr (upf G 13 (hN g)) nx) 28 (hN g)) hT2 (sgs.mo (fun i hi z => by have z : hN g ≤ i := z; omega))
    rw [← x1, ← hg'] at z
    exact z
  · rw [hg']
    show hN gs ≤ _
    rw [ngs]; exact b2
  · rw [hg']
    show hS gs ≤ _
    rw [mgs]; exact b3
  · rw [hg']
    exact hsu'.mh
  · rw [hg']
    show t + 3 ≤ hN gs
    rw [ngs]; exact h4
  · funext k; exact pS_b
  · rw [pS_ne (by decide)]
    show up2 (up2 (pS S1' (52 + 11 * nx) (S1' 28)) 50 1 (nI ((nx + 1) % 8))) 50 2 (nI (min (kp + 1) 8)) 50 1 = _
    rw [up2_ne (by decide), up2_same]
  · rw [pS_ne (by decide)]
    exact up2_same
  · rw [pS_ne (by decide), sr_o (by omega) (by decide)]
    exact e13
  · have e0 : cH (g, T, U, S, A, J, G) (S 13) (A 15) = MH g T U S A J G := mH_cH.symm
    rw [e0] at bg
    have ra : (0 : Int32) ≤ nI n ∧ nI n ≤ nI fl := ⟨nI_pos' (by omega), by rw [nI_leI (by omega) (by omega)]; exact hn⟩
    obtain ⟨Y, hY⟩ : ∃ y, y = cH (zC (bC (g, T, U, S, A, J, G)) (hN g) (fun _ => 0) a0 (hN g + 9)) (rd (A 14) n (skT (A 14) n 0) (S 13 6) (S 13 7) 0 sc) (A 15) := ⟨_, rfl⟩
    have hY' : cH (zC (bC (g, T, U, S, A, J, G)) (hN (g, T, U, S, A, J, G).fst) (fun _ => 0) a0 (hN (g, T, U, S, A, J, G).fst + 9)) (rd (A 14) n (skT (A 14) n 0) (S 13 6) (S 13 7) 0 sc) (A 15) = Y := hY.symm
    rw [hY'] at bg r1
    have y0 : hk Y 0 = 6 := by rw [hY]; exact k_0
    have y1 : hF Y 0 0 = .ref 13 := by rw [hY]; exact f_0_0
    have y2 : hk Y 13 = 5 := by rw [hY]; exact k_13
    have x0 : hk X1 0 = 6 := by rw [eX1]; exact k_0
    have x1' : hF X1 0 0 = .ref 13 := by rw [eX1]; exact f_0_0
    have x2' : hk X1 13 = 5 := by rw [eX1]; exact k_13
    have g28 : (Gr (upf G 13 (hN g)) nx) 13 = hN g := by
      unfold Gr
      rw [upf_ne _ _ (by omega), upf_same]
    have hsk : hk g' (hN g) = 4 := by rw [hg']; exact su_k hsu'
    have hsf : hF g' (hN g) 0 = .int (q 0) := by rw [hg']; exact su_f0 hsu'
    have z0 : hk g' 0 = 6 := by rw [hg']; exact k_0
    have z1 : hF g' 0 1 = .ref 28 := by rw [hg']; exact f_0_1
    have z28 : hk g' 28 = 3 := by rw [hg']; exact k_l0 hb28
    have z280 : hF g' 28 0 = .ref (hN g) := by
      rw [hg']
      refine (f_l0 hb28).trans ?_
      rw [upf_same]
    have bg' := fun K => bg (d + 13) K
    have r1' := fun K => r1 (d + 11) K
    have r2' := fun K => r2 d K
    have rem' := fun K => rem (d + 14) K
    have stw' := fun K => stw (d + 15) K
    have key : EvM (d + 17) 53 [.ref 0, .int (nI n)] (MH g T U S A J G) K = K (.inl (some (.int (nI zs.length)))) g' := by
      simp only [in53, i53_0, i53_1, i53_2, i53_3, i53_6, i53_9, i53_12, i53_13, i53_16, i53_17, i53_20, i53_21, i53_24, i53_27, i53_30, i53_31, i53_34, i53_37, i53_40, i53_41, i53_44, i53_47, i53_48, i53_49, i53_52, i53_53, i53_56, i53_59, i53_60, i53_63, i53_64, i53_67, i53_70, i53_73, i53_74, i53_77, i53_80, i53_83, nl_i, nl_r, nl_0, nl_j, nb0, nb1, nbI, orv_s, konN_v, konN_n, konN_e, true_and, and_true, and_self, if_true, if_false, ite_true, ite_false, isR_ref, true_or, or_true, isR_null, rg10, rg11, rg12, rg13, rg14, rg15, rg16, rh13, rh14, rh15, rh16, bI_T, bI_F, bI_Fb, i1z, Bool.false_eq_true, k_0, f_0_0, f_0_1, f_0_2, f_0_3, k_13, k_50, f_13_1, f_13_9, hS13, s_ra0 ra, bg', y0, y1, y2, r1', x0, x1', x2', r2', rem', g28, stw', z0, z1, z28, z280, hsk, hsf, c1.1, k_l0 hb28]
    rw [← x1] at key
    exact key
end LDC
