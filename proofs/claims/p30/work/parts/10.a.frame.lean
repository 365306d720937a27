/-! THE LAW'S OBJECTS: what stays the same in a heap, and what a line of the law holds -/
/-- the heap g' is g but for the cells W and new ones -/
def Sm (W : Nat → Prop) (g g' : AH) : Prop := hN g ≤ hN g' ∧ hS g ≤ hS g' ∧ hX g' = hX g ∧ (∀ i, i < hN g → hk g' i = hk g i ∧ hl g' i = hl g i) ∧ ∀ i, i < hN g → ¬ W i → (∀ k, hF g' i k = hF g i k) ∧ hA g' i = hA g i ∧ hJ g' i = hJ g i ∧ hR g' i = hR g i
theorem Sm.rf {W : Nat → Prop} {g : AH} : Sm W g g := ⟨Nat.le_refl _, Nat.le_refl _, rfl, fun _ _ => ⟨rfl, rfl⟩, fun _ _ _ => ⟨fun _ => rfl, rfl, rfl, rfl⟩⟩
theorem Sm.tr {W : Nat → Prop} {g g1 g2 : AH} (h1 : Sm W g g1) (h2 : Sm W g1 g2) : Sm W g g2 := by
  obtain ⟨a1, a2, a3, a4, a5⟩ := h1
  obtain ⟨b1, b2, b3, b4, b5⟩ := h2
  refine ⟨Nat.le_trans a1 b1, Nat.le_trans a2 b2, b3.trans a3, fun i hi => ?_, fun i hi hw => ?_⟩
  · have x := a4 i hi
    have y := b4 i (by omega)
    exact ⟨y.1.trans x.1, y.2.trans x.2⟩
  · have x := a5 i hi hw
    have y := b5 i (by omega) hw
    exact ⟨fun k => (y.1 k).trans (x.1 k), y.2.1.trans x.2.1, y.2.2.1.trans x.2.2.1, y.2.2.2.trans x.2.2.2⟩
theorem Sm.mo {W V : Nat → Prop} {g g' : AH} (h : Sm W g g') (hv : ∀ i, i < hN g → W i → V i) : Sm V g g' := ⟨h.1, h.2.1, h.2.2.1, h.2.2.2.1, fun i hi hw => h.2.2.2.2 i hi (fun z => hw (hv i hi z))⟩
theorem Sm.F {W : Nat → Prop} {g g' : AH} (h : Sm W g g') {i k : Nat} (hi : i < hN g) (hw : ¬ W i) : hF g' i k = hF g i k := (h.2.2.2.2 i hi hw).1 k
theorem Sm.A {W : Nat → Prop} {g g' : AH} (h : Sm W g g') {i : Nat} (hi : i < hN g) (hw : ¬ W i) : hA g' i = hA g i := (h.2.2.2.2 i hi hw).2.1
theorem Sm.R {W : Nat → Prop} {g g' : AH} (h : Sm W g g') {i : Nat} (hi : i < hN g) (hw : ¬ W i) : hR g' i = hR g i := (h.2.2.2.2 i hi hw).2.2.2
theorem Sm.k {W : Nat → Prop} {g g' : AH} (h : Sm W g g') {i : Nat} (hi : i < hN g) : hk g' i = hk g i := (h.2.2.2.1 i hi).1
theorem Sm.l {W : Nat → Prop} {g g' : AH} (h : Sm W g g') {i : Nat} (hi : i < hN g) : hl g' i = hl g i := (h.2.2.2.1 i hi).2
section SM
variable {W : Nat → Prop} {g : AH} {i k n kd : Nat} {v : Value}
theorem wF_ne {i j k m : Nat} (h : ¬ j = i) : hF (wF g i k v) j m = hF g j m := if_neg (fun z => h z.1)
theorem wF_nk {i j k m : Nat} (h : ¬ m = k) : hF (wF g i k v) j m = hF g j m := if_neg (fun z => h z.2)
theorem wF_eq {i k : Nat} : hF (wF g i k v) i k = v := if_pos ⟨rfl, rfl⟩
theorem wA_ne {i j : Nat} {f : Nat → Int32} (h : ¬ j = i) : hA (wA g i f) j = hA g j := if_neg h
theorem wA_eq {i : Nat} {f : Nat → Int32} : hA (wA g i f) i = f := if_pos rfl
theorem wR_ne {i j : Nat} {f : Nat → Option Nat} (h : ¬ j = i) : hR (wR g i f) j = hR g j := if_neg h
theorem wR_eq {i : Nat} {f : Nat → Option Nat} : hR (wR g i f) i = f := if_pos rfl
theorem Sm.wF (hi : W i) : Sm W g (wF g i k v) := ⟨Nat.le_refl _, Nat.le_refl _, rfl, fun _ _ => ⟨rfl, rfl⟩, fun j _ hw => ⟨fun m => wF_ne (fun z => hw (by rw [z]; exact hi)), rfl, rfl, rfl⟩⟩
theorem Sm.wA {f : Nat → Int32} (hi : W i) : Sm W g (wA g i f) := ⟨Nat.le_refl _, Nat.le_refl _, rfl, fun _ _ => ⟨rfl, rfl⟩, fun j _ hw => ⟨fun _ => rfl, wA_ne (fun z => hw (by rw [z]; exact hi)), rfl, rfl⟩⟩
theorem Sm.wR {f : Nat → Option Nat} (hi : W i) : Sm W g (wR g i f) := ⟨Nat.le_refl _, Nat.le_refl _, rfl, fun _ _ => ⟨rfl, rfl⟩, fun j _ hw => ⟨fun _ => rfl, rfl, rfl, wR_ne (fun z => hw (by rw [z]; exact hi))⟩⟩
theorem Sm.wJ {f : Nat → Int64} (hi : W i) : Sm W g (wJ g i f) := ⟨Nat.le_refl _, Nat.le_refl _, rfl, fun _ _ => ⟨rfl, rfl⟩, fun j _ hw => ⟨fun _ => rfl, rfl, if_neg (fun z => hw (by rw [z]; exact hi)), rfl⟩⟩
theorem Sm.alO {fs : Nat → Value} : Sm W g (alO g kd n fs) := ⟨Nat.le_succ _, Nat.le_add_right _ _, rfl, fun j hj => ⟨(hk_alO j).trans (if_neg (Nat.ne_of_lt hj)), (hl_alO j).trans (if_neg (Nat.ne_of_lt hj))⟩, fun j hj _ => ⟨fun m => by show (if j = g.1 then fs else g.2.2.2.1 j) m = _; rw [if_neg (show ¬ j = g.1 from Nat.ne_of_lt hj)]; rfl, rfl, rfl, rfl⟩⟩
theorem Sm.alA : Sm W g (alA g kd n) := ⟨Nat.le_succ _, Nat.le_add_right _ _, rfl, fun j hj => ⟨(hk_alA j).trans (if_neg (Nat.ne_of_lt hj)), (hl_alA j).trans (if_neg (Nat.ne_of_lt hj))⟩, fun j hj _ => ⟨fun _ => rfl, if_neg (Nat.ne_of_lt hj), if_neg (Nat.ne_of_lt hj), if_neg (Nat.ne_of_lt hj)⟩⟩
theorem Sm.alH : Sm W g (alH g) := ⟨Nat.le_succ _, Nat.le_add_right _ _, rfl, fun _ _ => ⟨rfl, rfl⟩, fun _ _ _ => ⟨fun _ => rfl, rfl, rfl, rfl⟩⟩
theorem alO_k {fs : Nat → Value} : hk (alO g kd n fs) (hN g) = kd := (hk_alO _).trans (if_pos rfl)
theorem alO_l {fs : Nat → Value} : hl (alO g kd n fs) (hN g) = n := (hl_alO _).trans (if_pos rfl)
theorem alO_F {fs : Nat → Value} : hF (alO g kd n fs) (hN g) k = fs k := by show (if g.1 = g.1 then fs else _) k = _; rw [if_pos rfl]
theorem alA_k : hk (alA g kd n) (hN g) = kd := (hk_alA _).trans (if_pos rfl)
theorem alA_l : hl (alA g kd n) (hN g) = n := (hl_alA _).trans (if_pos rfl)
theorem alA_A : hA (alA g kd n) (hN g) = fun _ => 0 := if_pos rfl
theorem alA_J : hJ (alA g kd n) (hN g) = fun _ => 0 := if_pos rfl
theorem alA_R : hR (alA g kd n) (hN g) = fun _ => none := if_pos rfl
end SM
/-- a band of the law's, and the class's two numbers -/
def BdR (g : AH) (B : Nat → Prop) (x : Option Nat) (lo hi : Int32) : Prop := (x = none ∧ lo = -1 ∧ hi = -1) ∨ ∃ b, x = some b ∧ (B b ∧ b < hN g) ∧ (hk g b = 10 ∧ hl g b = 2) ∧ hA g b 0 = lo ∧ hA g b 1 = hi ∧ 0 ≤ lo ∧ 0 ≤ hi
/-- the cells of a line: l itself, D 0 0 .. D 0 4 zones, heats, sheets, bands, learned; D 1 z a zone, D 2 s a sheet, D 3 t what was learned -/
def Ad (l : Nat) (D : Nat → Nat → Nat) (nz ns i : Nat) : Prop := i = l ∨ (∃ j, j < 5 ∧ i = D 0 j) ∨ (∃ z, z < nz ∧ i = D 1 z) ∨ (∃ s, s < ns ∧ i = D 2 s) ∨ ∃ t, t < 20 ∧ i = D 3 t
/-- those that are written -/
def Aw (l : Nat) (D : Nat → Nat → Nat) (nz ns i : Nat) : Prop := i = l ∨ i = D 0 1 ∨ (∃ z, z < nz ∧ i = D 1 z) ∨ (∃ s, s < ns ∧ i = D 2 s) ∨ ∃ t, t < 20 ∧ i = D 3 t
/-- a line of the law at l holds what a line of the class holds: numbers f, rows a, of the setup q, sa; p: the sheets' places; tv: its term -/
def LRc (g : AH) (B : Nat → Prop) (l : Nat) (D : Nat → Nat → Nat) (nz ns : Nat) (q : Nat → Int32) (sa : Nat → Nat → Int32) (tv : Value) (f : Nat → Int32) (a : Nat → Nat → Int32) (p : Nat → Int32) : Prop :=
  (hk g l = 7 ∧ hF g l 0 = .int (f 1) ∧ hF g l 1 = .int (q 1) ∧ hF g l 2 = .int (q 2) ∧ (∃ y, hF g l 3 = .int y ∧ (f 3 = -1 ∨ y = f 4)) ∧ hF g l 4 = tv ∧ hF g l 5 = .ref (D 0 0) ∧ hF g l 6 = .ref (D 0 1) ∧ hF g l 7 = .ref (D 0 2) ∧ hF g l 8 = .ref (D 0 3) ∧ hF g l 9 = .ref (D 0 4)) ∧
  ((hk g (D 0 0) = 14 ∧ hl g (D 0 0) = nz) ∧ (hk g (D 0 1) = 10 ∧ hl g (D 0 1) = nz) ∧ (hk g (D 0 2) = 15 ∧ hl g (D 0 2) = ns) ∧ (hk g (D 0 3) = 14 ∧ hl g (D 0 3) = 20) ∧ (hk g (D 0 4) = 14 ∧ hl g (D 0 4) = 20)) ∧
  (∀ z, z < nz → hR g (D 0 0) z = some (D 1 z) ∧ (hk g (D 1 z) = 10 ∧ hl g (D 1 z) = 5) ∧ hA g (D 1 z) 0 = a 1 z ∧ hA g (D 1 z) 1 = sa 2 z ∧ hA g (D 1 z) 2 = sa 3 z ∧ hA g (D 1 z) 3 = sa 4 z ∧ hA g (D 1 z) 4 = sa 5 z) ∧
  (∀ z, z < nz → hA g (D 0 1) z = a 2 z) ∧
  (∀ s, s < ns → hR g (D 0 2) s = some (D 2 s) ∧ hk g (D 2 s) = 20 ∧ hF g (D 2 s) 0 = .int (a 4 s) ∧ hF g (D 2 s) 1 = .int (a 5 s) ∧ hF g (D 2 s) 2 = .int (a 6 s) ∧ hF g (D 2 s) 3 = .int (p s)) ∧
  (∀ t, t < 20 → BdR g B (hR g (D 0 3) t) (sa 6 t) (sa 7 t)) ∧
  (∀ t, t < 20 → hR g (D 0 4) t = some (D 3 t) ∧ (hk g (D 3 t) = 10 ∧ hl g (D 3 t) = 4) ∧ hA g (D 3 t) 0 = a 7 t ∧ hA g (D 3 t) 1 = a 8 t ∧ hA g (D 3 t) 2 = a 9 t ∧ hA g (D 3 t) 3 = a 10 t)
/-- its cells are apart: c finds them back; no band's row is one of them -/
def Ap (B : Nat → Prop) (l : Nat) (D : Nat → Nat → Nat) (nz ns : Nat) : Prop := (∃ c : Nat → Nat × Nat, c l = (9, 0) ∧ (∀ j, j < 5 → c (D 0 j) = (0, j)) ∧ (∀ z, z < nz → c (D 1 z) = (1, z)) ∧ (∀ s, s < ns → c (D 2 s) = (2, s)) ∧ ∀ t, t < 20 → c (D 3 t) = (3, t)) ∧ ∀ i, B i → ¬ Ad l D nz ns i
section LN
variable {g g' : AH} {B W : Nat → Prop} {l : Nat} {D : Nat → Nat → Nat} {nz ns : Nat} {q : Nat → Int32} {sa : Nat → Nat → Int32} {tv : Value} {f : Nat → Int32} {a : Nat → Nat → Int32} {p : Nat → Int32}
theorem BdR.keep {x : Option Nat} {lo hi : Int32} (h : BdR g B x lo hi) (hs : Sm W g g') (hB : ∀ i, B i → ¬ W i) : BdR g' B x lo hi := by
  rcases h with h | ⟨b, h1, ⟨h2, h3⟩, ⟨h4, h5⟩, h6⟩
  · exact Or.inl h
  · refine Or.inr ⟨b, h1, ⟨h2, Nat.lt_of_lt_of_le h3 hs.1⟩, ⟨(hs.k h3).trans h4, (hs.l h3).trans h5⟩, ?_⟩
    rw [hs.A h3 (hB b h2)]
    exact h6
theorem LRc.keep (h : LRc g B l D nz ns q sa tv f a p) (hs : Sm W g g') (hB : ∀ i, B i → ¬ W i) (hAd : ∀ i, Ad l D nz ns i → i < hN g ∧ ¬ W i) : LRc g' B l D nz ns q sa tv f a p := by
  obtain ⟨⟨a0, a1, a2, a3, a4, a5, a6, a7, a8, a9, a10⟩, ⟨b1, b2, b3, b4, b5⟩, c1, c2, c3, c4, c5⟩ := h
  have hl0 := hAd l (Or.inl rfl)
  have hd : ∀ j, j < 5 → D 0 j < hN g ∧ ¬ W (D 0 j) := fun j hj => hAd _ (Or.inr (Or.inl ⟨j, hj, rfl⟩))
  have hz : ∀ z, z < nz → D 1 z < hN g ∧ ¬ W (D 1 z) := fun z h => hAd _ (Or.inr (Or.inr (Or.inl ⟨z, h, rfl⟩)))
  have hsh : ∀ s, s < ns → D 2 s < hN g ∧ ¬ W (D 2 s) := fun s h => hAd _ (Or.inr (Or.inr (Or.inr (Or.inl ⟨s, h, rfl⟩))))
  have ht : ∀ t, t < 20 → D 3 t < hN g ∧ ¬ W (D 3 t) := fun t h => hAd _ (Or.inr (Or.inr (Or.inr (Or.inr ⟨t, h, rfl⟩))))
  have eF : ∀ k, hF g' l k = hF g l k := fun k => hs.F hl0.1 hl0.2
  have ek : ∀ j, j < 5 → hk g' (D 0 j) = hk g (D 0 j) := fun j hj => hs.k (hd j hj).1
  have el : ∀ j, j < 5 → hl g' (D 0 j) = hl g (D 0 j) := fun j hj => hs.l (hd j hj).1
  have eR : ∀ j, j < 5 → hR g' (D 0 j) = hR g (D 0 j) := fun j hj => hs.R (hd j hj).1 (hd j hj).2
  have eA : hA g' (D 0 1) = hA g (D 0 1) := hs.A (hd 1 (by omega)).1 (hd 1 (by omega)).2
  refine ⟨?_, ?_, fun z hz' => ?_, fun z hz' => ?_, fun s hs' => ?_, fun t ht' => ?_, fun t ht' => ?_⟩
  · rw [hs.k hl0.1, eF, eF, eF, eF, eF, eF, eF, eF, eF, eF]
    exact ⟨a0, a1, a2, a3, a4, a5, a6, a7, a8, a9, a10⟩
  · rw [ek 0 (by omega), ek 1 (by omega), ek 2 (by omega), ek 3 (by omega), ek 4 (by omega), el 0 (by omega), el 1 (by omega), el 2 (by omega), el 3 (by omega), el 4 (by omega)]
    exact ⟨b1, b2, b3, b4, b5⟩
  · have x := hz z hz'
    rw [eR 0 (by omega), hs.k x.1, hs.l x.1, hs.A x.1 x.2]
    exact c1 z hz'
  · rw [eA]
    exact c2 z hz'
  · have x := hsh s hs'
    rw [eR 2 (by omega), hs.k x.1, hs.F x.1 x.2, hs.F x.1 x.2, hs.F x.1 x.2, hs.F x.1 x.2]
    exact c3 s hs'
  · rw [eR 3 (by omega)]
    exact (c4 t ht').keep hs hB
  · have x := ht t ht'
    rw [eR 4 (by omega), hs.k x.1, hs.l x.1, hs.A x.1 x.2]
    exact c5 t ht'
end LN
