/-! THE LAW'S LOOP: what holds between its calls -/
/-- what the law writes while it goes on -/
def Lw (l : Nat) (D : Nat → Nat → Nat) (nz ns r bf i : Nat) : Prop := Aw l D nz ns i ∨ i = r ∨ i = bf
/-- class, random numbers, setup; what lies apart from what -/
def LB (T : Nat → Bool) (J : Nat → Nat → Int64) (B : Nat → Prop) (l nz r bf s t m : Nat) (q : Nat → Int32) (sa : Nat → Nat → Int32) (pg : Nat → Int32) (g : AH) (U S A : Nat → Nat → Int32) (G : Nat → Nat) (D : Nat → Nat → Nat) (ns nx kp : Nat) : Prop :=
  (FX g T U S A J G ∧ RN g r ∧ SUp g T s t q sa m pg ∧ G 28 = s) ∧
  ((∀ i, Ad l D nz ns i → i < hN g ∧ ¬ CW T i ∧ ¬ i = r ∧ ¬ i = bf) ∧ (∀ i, B i → i < hN g ∧ ¬ CW T i ∧ ¬ i = r ∧ ¬ i = bf) ∧ (∀ j, j ≤ 7 → s + j < hN g ∧ ¬ Lw l D nz ns r bf (s + j)) ∧ (∀ j, j ≤ 2 → t + j < hN g ∧ ¬ Lw l D nz ns r bf (t + j)) ∧ (¬ CW T r ∧ ¬ CW T bf ∧ ¬ r = bf ∧ bf < hN g)) ∧
  (S 50 1 = nI nx ∧ nx < 8 ∧ S 50 2 = nI kp ∧ kp ≤ 8 ∧ S 13 1 = 0)
/-- and the law's line holds what the class's does -/
def LWd (T : Nat → Bool) (J : Nat → Nat → Int64) (B : Nat → Prop) (l nz r bf s t m : Nat) (q : Nat → Int32) (sa : Nat → Nat → Int32) (pg : Nat → Int32) (tv : Value) (g : AH) (U S A : Nat → Nat → Int32) (G : Nat → Nat) (D : Nat → Nat → Nat) (ns : Nat) (p : Nat → Int32) (nx kp ck : Nat) : Prop :=
  LB T J B l nz r bf s t m q sa pg g U S A G D ns nx kp ∧ LLn g B l D nz ns q sa tv pg m (S 28) (fun j => A (28 + j)) p ∧ S 28 1 = nI ck ∧ 0 < nz
section LBS
variable {T : Nat → Bool} {J : Nat → Nat → Int64} {B W : Nat → Prop} {l nz r bf s t m : Nat} {q : Nat → Int32} {sa : Nat → Nat → Int32} {pg : Nat → Int32} {tv : Value} {g g' : AH} {U U' S S' A A' : Nat → Nat → Int32} {G G' : Nat → Nat} {D D' : Nat → Nat → Nat} {ns ns' nx kp nx' kp' ck ck' i j : Nat} {p p' f' : Nat → Int32} {a' : Nat → Nat → Int32}
theorem LB.nW (x : LB T J B l nz r bf s t m q sa pg g U S A G D ns nx kp) (hi : Lw l D nz ns r bf i) : ¬ CW T i := by
  obtain ⟨-, ⟨h1, -, -, -, h5, h6, -⟩, -⟩ := x
  rcases hi with hi | hi | hi
  · exact (h1 i hi.ad).2.1
  · rw [hi]; exact h5
  · rw [hi]; exact h6
theorem LB.law (x : LB T J B l nz r bf s t m q sa pg g U S A G D ns nx kp) (hs : Sm W g g') (hW : ∀ i, W i → Lw l D nz ns r bf i) (hr : RN g' r) : LB T J B l nz r bf s t m q sa pg g' U S A G D ns nx kp := by
  have nw : ∀ i, CW T i → ¬ W i := fun i hi hw => x.nW (hW i hw) hi
  obtain ⟨⟨x1, -, x3, x4⟩, ⟨h1, h2, h3, h4, h5, h6, h7, h8⟩, hn⟩ := x
  have lt : ∀ {i : Nat}, i < hN g → i < hN g' := fun h => Nat.lt_of_lt_of_le h hs.1
  exact ⟨⟨x1.law hs nw, hr, x3.keep hs (fun _ _ => rfl) (fun j hj => ⟨(h3 j hj).1, fun w => (h3 j hj).2 (hW _ w)⟩) (fun j hj => ⟨(h4 j hj).1, fun _ w => (h4 j hj).2 (hW _ w)⟩), x4⟩, ⟨fun i hi => ⟨lt (h1 i hi).1, (h1 i hi).2⟩, fun i hi => ⟨lt (h2 i hi).1, (h2 i hi).2⟩, fun j hj => ⟨lt (h3 j hj).1, (h3 j hj).2⟩, fun j hj => ⟨lt (h4 j hj).1, (h4 j hj).2⟩, h5, h6, h7, lt h8⟩, hn⟩
theorem LB.hole (x : LB T J B l nz r bf s t m q sa pg g U S A G D ns nx kp) : LB T J B l nz r bf s t m q sa pg (alH g) U S A G D ns nx kp :=
  x.law (W := noW) Sm.alH (fun _ z => z.elim) (x.1.2.1.keep (W := noW) Sm.alH (fun z => z))
theorem LB.cls (x : LB T J B l nz r bf s t m q sa pg g U S A G D ns nx kp) (hG : G' 28 = s) (hn : S' 50 1 = nI nx' ∧ nx' < 8 ∧ S' 50 2 = nI kp' ∧ kp' ≤ 8 ∧ S' 13 1 = 0) : LB T J B l nz r bf s t m q sa pg (MH g T U' S' A' J G') U' S' A' G' D ns nx' kp' := by
  obtain ⟨⟨x1, x2, x3, x4⟩, ⟨h1, h2, h3, h4, h5, h6, h7, h8⟩, -⟩ := x
  have c := x1.cls (U' := U') (S' := S') (A' := A') (J' := J) (G' := G')
  exact ⟨⟨c.2, x2.keep c.1 h5, x3.mh, hG⟩, ⟨h1, h2, h3, h4, h5, h6, h7, h8⟩, hn⟩
theorem LB.LL (x : LB T J B l nz r bf s t m q sa pg g U S A G D ns nx kp) (hL : LLn g B l D nz ns q sa tv pg m f' a' p) : LLn (MH g T U' S' A' J G') B l D nz ns q sa tv pg m f' a' p :=
  hL.keep (x.1.1.cls (U' := U') (S' := S') (A' := A') (J' := J) (G' := G')).1 (fun i hi => (x.2.1.2.1 i hi).2.1) (fun i hi => (x.2.1.1 i hi).2.1)
theorem pS_b' {S : Nat → Nat → Int32} {b : Nat} {f : Nat → Int32} : pS S b f b = f := funext fun _ => pS_b
theorem pS_n' {S : Nat → Nat → Int32} {b i : Nat} {f : Nat → Int32} (h : ¬ i = b) : pS S b f i = S i := funext fun _ => pS_ne h
/-- a change of the class's line behind a remembered one -/
theorem LWd.push (x : LB T J B l nz r bf s t m q sa pg g U S A G D ns nx kp) (hL : LLn g B l D nz ns q sa tv pg m f' a' p) (hc : f' 1 = nI ck') (h0 : 0 < nz) : LWd T J B l nz r bf s t m q sa pg tv (MH g T U' (pS (Sr S nx kp) 28 f') (pA (Ar A nx) 28 a') J (Gr G nx)) U' (pS (Sr S nx kp) 28 f') (pA (Ar A nx) 28 a') (Gr G nx) D ns p ((nx + 1) % 8) (min (kp + 1) 8) ck' := by
  have hn := x.2.2.2.1
  refine ⟨x.cls ((gr28 hn).trans x.1.2.2.2) ⟨?_, Nat.mod_lt _ (by decide), ?_, Nat.min_le_right _ _, ?_⟩, ?_, ?_, h0⟩
  · rw [pS_ne (by decide)]
    unfold Sr
    rw [up2_ne (by decide), up2_same]
  · rw [pS_ne (by decide)]
    unfold Sr
    rw [up2_same]
  · rw [pS_ne (by decide), sr_o (by omega) (by decide)]
    exact x.2.2.2.2.2.2
  · rw [pS_b']
    exact (x.LL hL).ca (fun j j1 j2 => pA_g j1 j2)
  · rw [pS_b']
    exact hc
/-- the row that was written, and the others -/
theorem row_new (hn : nx < 8) : pS (Sr S nx kp) 28 f' (52 + 11 * nx) = S 28 ∧ (∀ j, 1 ≤ j → j ≤ 10 → pA (Ar A nx) 28 a' (52 + 11 * nx + j) = A (28 + j)) ∧ Gr G nx (52 + 11 * nx) = G 28 := by
  refine ⟨funext fun k => ?_, fun j j1 j2 => ?_, upf_same _ _ _⟩
  · rw [pS_ne (by omega)]
    unfold Sr
    rw [up2_ne (fun z => by omega), up2_ne (fun z => by omega)]
    exact if_pos rfl
  · rw [pA_o (by omega)]
    unfold Ar
    exact pA_g j1 j2
theorem row_old (hn : nx < 8) (hi : ¬ i = nx) : pS (Sr S nx kp) 28 f' (52 + 11 * i) = S (52 + 11 * i) ∧ (∀ j, 1 ≤ j → j ≤ 10 → pA (Ar A nx) 28 a' (52 + 11 * i + j) = A (52 + 11 * i + j)) ∧ Gr G nx (52 + 11 * i) = G (52 + 11 * i) := by
  refine ⟨funext fun k => ?_, fun j j1 j2 => ?_, upf_ne _ _ (by omega)⟩
  · rw [pS_ne (by omega), sr_o (by omega) (by omega)]
  · rw [pA_o (by omega)]
    unfold Ar
    exact pA_o (by omega)
/-- the row of the k-th latest change -/
def rw8 (nx k : Nat) : Nat := 52 + 11 * ((nx + 7 - k) % 8)
/-- the law's own kept lines -/
def HB (g : AH) (bf : Nat) : Prop := (hk g bf = 16 ∧ hl g bf = 9) ∧ ∀ k, k < 9 → hR g bf k = none ∨ ∃ v, hR g bf k = some v ∧ hk g v = 7 ∧ v < hN g
def HK (T : Nat → Bool) (B : Nat → Prop) (l nz r bf s m : Nat) (q : Nat → Int32) (sa : Nat → Nat → Int32) (pg : Nat → Int32) (tv : Value) (g : AH) (S A : Nat → Nat → Int32) (G : Nat → Nat) (D : Nat → Nat → Nat) (ns nx done : Nat) : Prop :=
  ∀ k, k < 8 → k < done → ∃ (v : Nat) (Dk : Nat → Nat → Nat) (nk : Nat) (pk : Nat → Int32), hR g bf k = some v ∧ LLn g B v Dk nz nk q sa tv pg m (S (rw8 nx k)) (fun j => A (rw8 nx k + j)) pk ∧ (∀ i, Ad v Dk nz nk i → ¬ Lw l D nz ns r bf i ∧ ¬ CW T i) ∧ G (rw8 nx k) = s
theorem HB.keep (h : HB g bf) (hs : Sm W g g') (hw : ¬ W bf) (hb : bf < hN g) : HB g' bf := by
  refine ⟨⟨(hs.k hb).trans h.1.1, (hs.l hb).trans h.1.2⟩, fun k hk => ?_⟩
  rw [hs.R hb hw]
  rcases h.2 k hk with h | ⟨v, h1, h2, h3⟩
  · exact Or.inl h
  · exact Or.inr ⟨v, h1, (hs.k h3).trans h2, Nat.lt_of_lt_of_le h3 hs.1⟩
theorem HK.keep {done : Nat} (h : HK T B l nz r bf s m q sa pg tv g S A G D ns nx done) (hs : Sm W g g') (hW : ∀ i, W i → Lw l D nz ns r bf i ∨ CW T i) (hw : ¬ W bf) (hb : bf < hN g) (hB : ∀ i, B i → ¬ W i) (hD : ∀ i, i < hN g → Lw l D' nz ns' r bf i → Lw l D nz ns r bf i) : HK T B l nz r bf s m q sa pg tv g' S A G D' ns' nx done := by
  intro k k8 kd
  obtain ⟨v, Dk, nk, pk, h1, h2, h3, h4⟩ := h k k8 kd
  refine ⟨v, Dk, nk, pk, ?_, h2.keep hs hB (fun i hi w => ?_), fun i hi => ⟨fun z => (h3 i hi).1 (hD i (h2.2.1.2 i hi) z), (h3 i hi).2⟩, h4⟩
  · rw [hs.R hb hw]
    exact h1
  · rcases hW i w with z | z
    · exact (h3 i hi).1 z
    · exact (h3 i hi).2 z
end LBS
