/-! WRITES to a line of the law -/
section LW
variable {g g' : AH} {B W : Nat → Prop} {l : Nat} {D : Nat → Nat → Nat} {nz ns : Nat} {q : Nat → Int32} {sa : Nat → Nat → Int32} {tv : Value} {f f' : Nat → Int32} {a a' : Nat → Nat → Int32} {p p' : Nat → Int32} {s z t j : Nat} {x : Int32}
theorem upd_e {f : Nat → Int32} {k : Nat} {v : Int32} : upd f k v k = v := if_pos rfl
theorem upd_n {f : Nat → Int32} {k m : Nat} {v : Int32} (h : ¬ m = k) : upd f k v m = f m := if_neg h
theorem Ap.n {i j i' j' : Nat} {c : Nat → Nat × Nat} {x y : Nat} (h1 : c x = (i, j)) (h2 : c y = (i', j')) (hn : ¬ (i = i' ∧ j = j')) : ¬ x = y := fun z => by
  rw [z, h2] at h1
  cases h1
  exact hn ⟨rfl, rfl⟩
/-- a write to one field of a sheet -/
theorem LRc.ws (h : LRc g B l D nz ns q sa tv f a p) (hap : Ap B l D nz ns) (hs : s < ns) {k : Nat} (hFs : ∀ s', s' < ns → (∀ m, (m = 0 → (if s' = s ∧ k = 0 then x else a 4 s') = a' 4 s') ∧ (m = 1 → (if s' = s ∧ k = 1 then x else a 5 s') = a' 5 s') ∧ (m = 2 → (if s' = s ∧ k = 2 then x else a 6 s') = a' 6 s') ∧ (m = 3 → (if s' = s ∧ k = 3 then x else p s') = p' s')))
    (hk : ∀ i, i = 1 ∨ i = 2 ∨ (7 ≤ i ∧ i ≤ 10) → a' i = a i) : LRc (wF g (D 2 s) k (.int x)) B l D nz ns q sa tv f a' p' := by
  obtain ⟨⟨a0, a1, a2, a3, a4, a5, a6, a7, a8, a9, a10⟩, b, c1, c2, c3, c4, c5⟩ := h
  obtain ⟨⟨c, cl, cd, cz, cs, ct⟩, -⟩ := hap
  have nl : ¬ l = D 2 s := Ap.n cl (cs s hs) (by omega)
  have eF : ∀ m, hF (wF g (D 2 s) k (.int x)) l m = hF g l m := fun m => wF_ne nl
  have e1 : a' 1 = a 1 := hk 1 (by omega)
  have e2 : a' 2 = a 2 := hk 2 (by omega)
  refine ⟨?_, b, ?_, ?_, fun s' hs' => ?_, c4, ?_⟩
  · refine ⟨a0, (eF 0).trans a1, (eF 1).trans a2, (eF 2).trans a3, ?_, (eF 4).trans a5, (eF 5).trans a6, (eF 6).trans a7, (eF 7).trans a8, (eF 8).trans a9, (eF 9).trans a10⟩
    obtain ⟨y, y1, y2⟩ := a4
    exact ⟨y, (eF 3).trans y1, y2⟩
  · rw [e1]; exact c1
  · rw [e2]; exact c2
  · obtain ⟨d1, d2, d3, d4, d5, d6⟩ := c3 s' hs'
    have hF4 := hFs s' hs'
    refine ⟨d1, d2, ?_, ?_, ?_, ?_⟩
    · rw [← (hF4 0).1 rfl]
      show (if D 2 s' = D 2 s ∧ 0 = k then _ else _) = _
      by_cases e : s' = s ∧ k = 0
      · rw [if_pos e, if_pos ⟨by rw [e.1], e.2.symm⟩]
      · rw [if_neg e, if_neg (fun z => e ⟨by have := congrArg c z.1; rw [cs s' hs', cs s hs] at this; exact congrArg Prod.snd this, z.2.symm⟩)]
        exact d3
    · rw [← (hF4 1).2.1 rfl]
      show (if D 2 s' = D 2 s ∧ 1 = k then _ else _) = _
      by_cases e : s' = s ∧ k = 1
      · rw [if_pos e, if_pos ⟨by rw [e.1], e.2.symm⟩]
      · rw [if_neg e, if_neg (fun z => e ⟨by have := congrArg c z.1; rw [cs s' hs', cs s hs] at this; exact congrArg Prod.snd this, z.2.symm⟩)]
        exact d4
    · rw [← (hF4 2).2.2.1 rfl]
      show (if D 2 s' = D 2 s ∧ 2 = k then _ else _) = _
      by_cases e : s' = s ∧ k = 2
      · rw [if_pos e, if_pos ⟨by rw [e.1], e.2.symm⟩]
      · rw [if_neg e, if_neg (fun z => e ⟨by have := congrArg c z.1; rw [cs s' hs', cs s hs] at this; exact congrArg Prod.snd this, z.2.symm⟩)]
        exact d5
    · rw [← (hF4 3).2.2.2 rfl]
      show (if D 2 s' = D 2 s ∧ 3 = k then _ else _) = _
      by_cases e : s' = s ∧ k = 3
      · rw [if_pos e, if_pos ⟨by rw [e.1], e.2.symm⟩]
      · rw [if_neg e, if_neg (fun z => e ⟨by have := congrArg c z.1; rw [cs s' hs', cs s hs] at this; exact congrArg Prod.snd this, z.2.symm⟩)]
        exact d6
  · rw [hk 7 (by omega), hk 8 (by omega), hk 9 (by omega), hk 10 (by omega)]
    exact c5
theorem LRc.ws1 (h : LRc g B l D nz ns q sa tv f a p) (hap : Ap B l D nz ns) (hs : s < ns) : LRc (wF g (D 2 s) 1 (.int x)) B l D nz ns q sa tv f (upf a 5 (upd (a 5) s x)) p :=
  h.ws hap hs (fun s' _ m => ⟨fun _ => if_neg (by omega), fun _ => by
    show _ = upd (a 5) s x s'
    unfold upd
    by_cases e : s' = s
    · rw [if_pos ⟨e, rfl⟩, if_pos e]
    · rw [if_neg (fun z => e z.1), if_neg e], fun _ => if_neg (by omega), fun _ => if_neg (by omega)⟩) (fun i hi => upf_ne _ _ (by omega))
theorem LRc.ws2 (h : LRc g B l D nz ns q sa tv f a p) (hap : Ap B l D nz ns) (hs : s < ns) : LRc (wF g (D 2 s) 2 (.int x)) B l D nz ns q sa tv f (upf a 6 (upd (a 6) s x)) p :=
  h.ws hap hs (fun s' _ m => ⟨fun _ => if_neg (by omega), fun _ => if_neg (by omega), fun _ => by
    show _ = upd (a 6) s x s'
    unfold upd
    by_cases e : s' = s
    · rw [if_pos ⟨e, rfl⟩, if_pos e]
    · rw [if_neg (fun z => e z.1), if_neg e], fun _ => if_neg (by omega)⟩) (fun i hi => upf_ne _ _ (by omega))
theorem LRc.ws3 (h : LRc g B l D nz ns q sa tv f a p) (hap : Ap B l D nz ns) (hs : s < ns) : LRc (wF g (D 2 s) 3 (.int x)) B l D nz ns q sa tv f a (upd p s x) :=
  h.ws hap hs (fun s' _ m => ⟨fun _ => if_neg (by omega), fun _ => if_neg (by omega), fun _ => if_neg (by omega), fun _ => by
    unfold upd
    by_cases e : s' = s
    · rw [if_pos ⟨e, rfl⟩, if_pos e]
    · rw [if_neg (fun z => e z.1), if_neg e]⟩) (fun i _ => rfl)
theorem BdR.wA {b : Nat} {fn : Nat → Int32} {y : Option Nat} {lo hi : Int32} (h : BdR g B y lo hi) (hb : ¬ B b) : BdR (wA g b fn) B y lo hi := by
  rcases h with h | ⟨c, h1, ⟨h2, h3⟩, h4, h5⟩
  · exact Or.inl h
  · refine Or.inr ⟨c, h1, ⟨h2, h3⟩, h4, ?_⟩
    rw [wA_ne (fun z => hb (by rw [← z]; exact h2))]
    exact h5
theorem BdR.wF {b k : Nat} {v : Value} {y : Option Nat} {lo hi : Int32} (h : BdR g B y lo hi) : BdR (wF g b k v) B y lo hi := h
/-- a write to a row of numbers of the line -/
theorem LRc.wr (h : LRc g B l D nz ns q sa tv f a p) (hap : Ap B l D nz ns) {y i0 j0 : Nat} {fn : Nat → Int32} (hy : Ad l D nz ns y) (hc : ∀ c : Nat → Nat × Nat, c l = (9, 0) → (∀ j, j < 5 → c (D 0 j) = (0, j)) → (∀ z, z < nz → c (D 1 z) = (1, z)) → (∀ s, s < ns → c (D 2 s) = (2, s)) → (∀ t, t < 20 → c (D 3 t) = (3, t)) → c y = (i0, j0))
    (hz : ∀ z, z < nz → ((i0 = 1 ∧ j0 = z) → fn 0 = a' 1 z ∧ fn 1 = sa 2 z ∧ fn 2 = sa 3 z ∧ fn 3 = sa 4 z ∧ fn 4 = sa 5 z) ∧ (¬ (i0 = 1 ∧ j0 = z) → a' 1 z = a 1 z) ∧ ((i0 = 0 ∧ j0 = 1) → fn z = a' 2 z) ∧ (¬ (i0 = 0 ∧ j0 = 1) → a' 2 z = a 2 z))
    (hl : ∀ t, t < 20 → ((i0 = 3 ∧ j0 = t) → fn 0 = a' 7 t ∧ fn 1 = a' 8 t ∧ fn 2 = a' 9 t ∧ fn 3 = a' 10 t) ∧ (¬ (i0 = 3 ∧ j0 = t) → a' 7 t = a 7 t ∧ a' 8 t = a 8 t ∧ a' 9 t = a 9 t ∧ a' 10 t = a 10 t)) (hk : ∀ i, 4 ≤ i → i ≤ 6 → a' i = a i) : LRc (wA g y fn) B l D nz ns q sa tv f a' p := by
  obtain ⟨b0, b, c1, c2, c3, c4, c5⟩ := h
  obtain ⟨⟨c, cl, cd, cz, cs, ct⟩, cb⟩ := hap
  have cy := hc c cl cd cz cs ct
  have hby : ¬ B y := fun z => cb y z hy
  refine ⟨b0, b, fun z hz' => ?_, fun z hz' => ?_, fun s hs' => ?_, fun t ht' => (c4 t ht').wA hby, fun t ht' => ?_⟩
  · obtain ⟨d1, d2, d3⟩ := c1 z hz'
    refine ⟨d1, d2, ?_⟩
    by_cases e : i0 = 1 ∧ j0 = z
    · have e2 : D 1 z = y := by
        rcases hy with hy | ⟨j, hj, hy⟩ | ⟨z', hz'', hy⟩ | ⟨s, hs, hy⟩ | ⟨t, ht, hy⟩
        · rw [hy, cl] at cy; cases cy; omega
        · rw [hy, cd j hj] at cy; cases cy; omega
        · rw [hy, cz z' hz''] at cy; cases cy; rw [hy, e.2]
        · rw [hy, cs s hs] at cy; cases cy; omega
        · rw [hy, ct t ht] at cy; cases cy; omega
      rw [e2, wA_eq]
      exact (hz z hz').1 e
    · rw [wA_ne (Ap.n (cz z hz') cy (fun w => e ⟨w.1.symm, w.2.symm⟩)), (hz z hz').2.1 e]
      exact d3
  · by_cases e : i0 = 0 ∧ j0 = 1
    · have e2 : D 0 1 = y := by
        rcases hy with hy | ⟨j, hj, hy⟩ | ⟨z', hz'', hy⟩ | ⟨s, hs, hy⟩ | ⟨t, ht, hy⟩
        · rw [hy, cl] at cy; cases cy; omega
        · rw [hy, cd j hj] at cy; cases cy; rw [hy, e.2]
        · rw [hy, cz z' hz''] at cy; cases cy; omega
        · rw [hy, cs s hs] at cy; cases cy; omega
        · rw [hy, ct t ht] at cy; cases cy; omega
      rw [e2, wA_eq]
      exact (hz z hz').2.2.1 e
    · rw [wA_ne (Ap.n (cd 1 (by omega)) cy (fun w => e ⟨w.1.symm, w.2.symm⟩)), (hz z hz').2.2.2 e]
      exact c2 z hz'
  · rw [hk 4 (by omega) (by omega), hk 5 (by omega) (by omega), hk 6 (by omega) (by omega)]
    exact c3 s hs'
  · obtain ⟨d1, d2, d3⟩ := c5 t ht'
    refine ⟨d1, d2, ?_⟩
    by_cases e : i0 = 3 ∧ j0 = t
    · have e2 : D 3 t = y := by
        rcases hy with hy | ⟨j, hj, hy⟩ | ⟨z', hz'', hy⟩ | ⟨s, hs, hy⟩ | ⟨t', ht'', hy⟩
        · rw [hy, cl] at cy; cases cy; omega
        · rw [hy, cd j hj] at cy; cases cy; omega
        · rw [hy, cz z' hz''] at cy; cases cy; omega
        · rw [hy, cs s hs] at cy; cases cy; omega
        · rw [hy, ct t' ht''] at cy; cases cy; rw [hy, e.2]
      rw [e2, wA_eq]
      exact (hl t ht').1 e
    · obtain ⟨f1, f2, f3, f4⟩ := (hl t ht').2 e
      rw [wA_ne (Ap.n (ct t ht') cy (fun w => e ⟨w.1.symm, w.2.symm⟩)), f1, f2, f3, f4]
      exact d3
theorem LRc.whe (h : LRc g B l D nz ns q sa tv f a p) (hap : Ap B l D nz ns) (hz : z < nz) : LRc (wA g (D 0 1) (upd (hA g (D 0 1)) z x)) B l D nz ns q sa tv f (upf a 2 (upd (a 2) z x)) p :=
  h.wr hap (i0 := 0) (j0 := 1) (Or.inr (Or.inl ⟨1, by omega, rfl⟩)) (fun c _ hd _ _ _ => hd 1 (by omega)) (fun z' hz' => ⟨fun e => by omega, fun _ => rfl, fun _ => by
    show upd (hA g (D 0 1)) z x z' = upd (a 2) z x z'
    unfold upd
    rw [h.2.2.2.1 z' hz'], fun e => absurd ⟨rfl, rfl⟩ e⟩) (fun t _ => ⟨fun e => by omega, fun _ => ⟨rfl, rfl, rfl, rfl⟩⟩) (fun i h1 h2 => upf_ne _ _ (by omega))
theorem LRc.wz (h : LRc g B l D nz ns q sa tv f a p) (hap : Ap B l D nz ns) (hz : z < nz) : LRc (wA g (D 1 z) (upd (hA g (D 1 z)) 0 x)) B l D nz ns q sa tv f (upf a 1 (upd (a 1) z x)) p :=
  h.wr hap (i0 := 1) (j0 := z) (Or.inr (Or.inr (Or.inl ⟨z, hz, rfl⟩))) (fun c _ _ hd _ _ => hd z hz) (fun z' hz' => ⟨fun e => by
    obtain ⟨-, rfl⟩ := e
    obtain ⟨-, -, -, d2, d3, d4, d5⟩ := h.2.2.1 z hz'
    exact ⟨by show upd _ 0 x 0 = upd (a 1) z x z; rw [upd_e, upd_e], (upd_n (by omega)).trans d2, (upd_n (by omega)).trans d3, (upd_n (by omega)).trans d4, (upd_n (by omega)).trans d5⟩, fun e => upd_n (fun w => e ⟨rfl, w.symm⟩), fun e => by omega, fun _ => rfl⟩) (fun t _ => ⟨fun e => by omega, fun _ => ⟨rfl, rfl, rfl, rfl⟩⟩) (fun i h1 h2 => upf_ne _ _ (by omega))
theorem LRc.wl (h : LRc g B l D nz ns q sa tv f a p) (hap : Ap B l D nz ns) (ht : t < 20) (hj : j < 4) : LRc (wA g (D 3 t) (upd (hA g (D 3 t)) j x)) B l D nz ns q sa tv f (upf a (7 + j) (upd (a (7 + j)) t x)) p :=
  h.wr hap (i0 := 3) (j0 := t) (Or.inr (Or.inr (Or.inr (Or.inr ⟨t, ht, rfl⟩)))) (fun c _ _ _ _ hd => hd t ht) (fun z' hz' => ⟨fun e => by omega, fun _ => by rw [upf_ne _ _ (by omega)], fun e => by omega, fun _ => by rw [upf_ne _ _ (by omega)]⟩) (fun t' ht' => ⟨fun e => by
    obtain ⟨-, rfl⟩ := e
    obtain ⟨-, -, d1, d2, d3, d4⟩ := h.2.2.2.2.2.2 t ht'
    have key : ∀ m, m < 4 → hA g (D 3 t) m = a (7 + m) t → upd (hA g (D 3 t)) j x m = upf a (7 + j) (upd (a (7 + j)) t x) (7 + m) t := fun m hm e => by
      by_cases hmj : m = j
      · subst hmj; rw [upd_e, upf_same, upd_e]
      · rw [upd_n hmj, upf_ne _ _ (by omega)]; exact e
    exact ⟨key 0 (by omega) d1, key 1 (by omega) d2, key 2 (by omega) d3, key 3 (by omega) d4⟩, fun e => by
    have key : ∀ m, upf a (7 + j) (upd (a (7 + j)) t x) m t' = a m t' := fun m => by
      by_cases hmj : m = 7 + j
      · subst hmj; rw [upf_same, upd_n (fun w => e ⟨rfl, w.symm⟩)]
      · rw [upf_ne _ _ hmj]
    exact ⟨key 7, key 8, key 9, key 10⟩⟩) (fun i h1 h2 => upf_ne _ _ (by omega))
/-- the numbers of the line itself -/
theorem LRc.wn (h : LRc g B l D nz ns q sa tv f a p) (hap : Ap B l D nz ns) {k : Nat} (hk : k = 0 ∨ k = 3) (h0 : (if k = 0 then x else f 1) = f' 1) (h3 : ∀ y, (if k = 3 then y = x else (f 3 = -1 ∨ y = f 4)) → (f' 3 = -1 ∨ y = f' 4)) : LRc (wF g l k (.int x)) B l D nz ns q sa tv f' a p := by
  obtain ⟨⟨a0, a1, a2, a3, a4, a5, a6, a7, a8, a9, a10⟩, b, c1, c2, c3, c4, c5⟩ := h
  obtain ⟨⟨c, cl, cd, cz, cs, ct⟩, -⟩ := hap
  refine ⟨?_, b, c1, c2, fun s' hs' => ?_, c4, c5⟩
  · have n : ∀ m, ¬ m = k → hF (wF g l k (.int x)) l m = hF g l m := fun m hm => wF_nk hm
    refine ⟨a0, ?_, (n 1 (by omega)).trans a2, (n 2 (by omega)).trans a3, ?_, (n 4 (by omega)).trans a5, (n 5 (by omega)).trans a6, (n 6 (by omega)).trans a7, (n 7 (by omega)).trans a8, (n 8 (by omega)).trans a9, (n 9 (by omega)).trans a10⟩
    · rcases hk with rfl | rfl
      · rw [if_pos rfl] at h0
        rw [← h0]
        exact wF_eq
      · rw [if_neg (by omega)] at h0
        rw [← h0]
        exact (n 0 (by omega)).trans a1
    · obtain ⟨y, y1, y2⟩ := a4
      rcases hk with rfl | rfl
      · exact ⟨y, (n 3 (by omega)).trans y1, h3 y (by rw [if_neg (by omega)]; exact y2)⟩
      · exact ⟨x, wF_eq, h3 x (by rw [if_pos rfl])⟩
  · have nn : ∀ m, hF (wF g l k (.int x)) (D 2 s') m = hF g (D 2 s') m := fun m => wF_ne (Ap.n (cs s' hs') cl (by omega))
    obtain ⟨d1, d2, d3, d4, d5, d6⟩ := c3 s' hs'
    exact ⟨d1, d2, (nn 0).trans d3, (nn 1).trans d4, (nn 2).trans d5, (nn 3).trans d6⟩
theorem LRc.cf (h : LRc g B l D nz ns q sa tv f a p) (h1 : f' 1 = f 1) (h2 : ∀ y, (f 3 = -1 ∨ y = f 4) → (f' 3 = -1 ∨ y = f' 4)) (ha : ∀ i, ¬ i = 3 → a' i = a i) : LRc g B l D nz ns q sa tv f' a' p := by
  obtain ⟨⟨a0, a1, a2, a3, a4, a5⟩, b, c1, c2, c3, c4, c5⟩ := h
  refine ⟨⟨a0, by rw [h1]; exact a1, a2, a3, ?_, a5⟩, b, ?_, ?_, ?_, c4, ?_⟩
  · obtain ⟨y, y1, y2⟩ := a4
    exact ⟨y, y1, h2 y y2⟩
  · rw [ha 1 (by omega)]; exact c1
  · rw [ha 2 (by omega)]; exact c2
  · rw [ha 4 (by omega), ha 5 (by omega), ha 6 (by omega)]; exact c3
  · rw [ha 7 (by omega), ha 8 (by omega), ha 9 (by omega), ha 10 (by omega)]; exact c5
end LW
