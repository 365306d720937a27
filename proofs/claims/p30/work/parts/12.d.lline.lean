/-! THE LAW'S LINE: what the law itself writes to it -/
section LWX
variable {g g' : AH} {B W : Nat → Prop} {l : Nat} {D : Nat → Nat → Nat} {nz ns n c : Nat} {q pg stk : Nat → Int32} {sa : Nat → Nat → Int32} {tv : Value} {f f' : Nat → Int32} {a a' : Nat → Nat → Int32} {p p' : Nat → Int32} {z s t k : Nat} {v : Int32}
theorem LLn.keep (h : LLn g B l D nz ns q sa tv pg n f a p) (hs : Sm W g g') (hB : ∀ i, B i → ¬ W i) (hA : ∀ i, Ad l D nz ns i → ¬ W i) : LLn g' B l D nz ns q sa tv pg n f a p :=
  ⟨h.1.keep hs hB (fun i hi => ⟨h.2.1.2 i hi, hA i hi⟩), ⟨h.2.1.1, fun i hi => Nat.lt_of_lt_of_le (h.2.1.2 i hi) hs.1⟩, h.2.2.1.keep hs hB, h.2.2.2⟩
theorem LLn.ca (h : LLn g B l D nz ns q sa tv pg n f a p) (ha : ∀ j, 1 ≤ j → j ≤ 10 → a' j = a j) : LLn g B l D nz ns q sa tv pg n f a' p := by
  have e1 := ha 1 (by omega) (by omega)
  have e2 := ha 2 (by omega) (by omega)
  have e3 := ha 3 (by omega) (by omega)
  have e4 := ha 4 (by omega) (by omega)
  have e5 := ha 5 (by omega) (by omega)
  have e6 := ha 6 (by omega) (by omega)
  have e7 := ha 7 (by omega) (by omega)
  have e8 := ha 8 (by omega) (by omega)
  have e9 := ha 9 (by omega) (by omega)
  have eA := ha 10 (by omega) (by omega)
  unfold LLn LRc INV PLc at h ⊢
  rw [e1, e2, e3, e4, e5, e6, e7, e8, e9, eA]
  exact h
theorem INV_a1 (hI : INV nz ns f a) (hv : 100 ≤ v ∧ v ≤ 900) : INV nz ns f (upf a 1 (upd (a 1) z v)) := by
  obtain ⟨i1, i2, i3, i4, i5, i6⟩ := hI
  have eo : ∀ j, ¬ j = 1 → upf a 1 (upd (a 1) z v) j = a j := fun j h => upf_ne _ _ h
  unfold INV
  rw [upf_same, eo 2 (by omega), eo 3 (by omega), eo 4 (by omega), eo 5 (by omega), eo 6 (by omega), eo 10 (by omega)]
  refine ⟨i1, i2, i3, fun z' hz' => ⟨?_, (i4 z' hz').2⟩, i5, i6⟩
  by_cases e : z' = z
  · rw [e, upd_e]; exact hv
  · rw [upd_n e]; exact (i4 z' hz').1
theorem INV_a10 (hI : INV nz ns f a) (hv : -50 ≤ v ∧ v ≤ 50) : INV nz ns f (upf a 10 (upd (a 10) k v)) := by
  obtain ⟨i1, i2, i3, i4, i5, i6⟩ := hI
  have eo : ∀ j, ¬ j = 10 → upf a 10 (upd (a 10) k v) j = a j := fun j h => upf_ne _ _ h
  unfold INV
  rw [upf_same, eo 1 (by omega), eo 2 (by omega), eo 3 (by omega), eo 4 (by omega), eo 5 (by omega), eo 6 (by omega)]
  refine ⟨i1, i2, i3, i4, i5, fun k' hk' => ?_⟩
  by_cases e : k' = k
  · rw [e, upd_e]; exact hv
  · rw [upd_n e]; exact i6 k' hk'
/-- a new set point -/
theorem s_lset (h : LLn g B l D nz ns q sa tv pg n f a p) (hz : z < nz) (hv : 100 ≤ v ∧ v ≤ 900) : Sx (Aw l D nz ns) 0 g (wA g (D 1 z) (upd (hA g (D 1 z)) 0 v)) ∧ LLn (wA g (D 1 z) (upd (hA g (D 1 z)) 0 v)) B l D nz ns q sa tv pg n f (upf a 1 (upd (a 1) z v)) p := by
  have sx : Sx (Aw l D nz ns) 0 g (wA g (D 1 z) (upd (hA g (D 1 z)) 0 v)) := Sx.of (Sm.wA (Aw_z hz)) rfl rfl
  exact ⟨sx, h.nw sx (h.1.wz h.2.1.1 hz) (INV_a1 h.2.2.2.1 hv) (h.2.2.2.2.1.cg rfl (upf_ne _ _ (by omega)))⟩
/-- a new correction -/
theorem s_lcorr (h : LLn g B l D nz ns q sa tv pg n f a p) (hk : k < 20) (hv : -50 ≤ v ∧ v ≤ 50) : Sx (Aw l D nz ns) 0 g (wA g (D 3 k) (upd (hA g (D 3 k)) 3 v)) ∧ LLn (wA g (D 3 k) (upd (hA g (D 3 k)) 3 v)) B l D nz ns q sa tv pg n f (upf a 10 (upd (a 10) k v)) p := by
  have sx : Sx (Aw l D nz ns) 0 g (wA g (D 3 k) (upd (hA g (D 3 k)) 3 v)) := Sx.of (Sm.wA (Aw_t hk)) rfl rfl
  exact ⟨sx, h.nw sx (h.1.wl (j := 3) h.2.1.1 hk (by omega)) (INV_a10 h.2.2.2.1 hv) (h.2.2.2.2.1.cg rfl (upf_ne _ _ (by omega)))⟩
theorem sp_inv (hI : INV nz ns f a) (hs : s < ns) (hst : a 6 s = 0 ∨ a 6 s = 1) : INV nz ns f (spoilL nz (nI s) a) := by
  obtain ⟨⟨i1, i2, i3⟩, i4, ⟨i5, i6⟩, i7, i8, i9⟩ := hI
  have n2 : ¬ a 6 s = 2 := by
    rcases hst with e | e <;> rw [e] <;> decide
  have e6 : spoilL nz (nI s) a 6 = upd (a 6) s 5 := by
    unfold spoilL
    rw [upf_ne _ _ (by decide), upf_same, show zn (nI s) = s from zn_nI (by omega)]
  have e3 : spoilL nz (nI s) a 3 = fun j => if 0 ≤ j ∧ j < 0 + nz ∧ a 3 j = nI s then -1 else a 3 j := by
    unfold spoilL
    rw [upf_same, un_eq]
  have eo : ∀ j, ¬ j = 3 → ¬ j = 6 → spoilL nz (nI s) a j = a j := fun j j1 j2 => by
    unfold spoilL
    rw [upf_ne _ _ j1, upf_ne _ _ j2]
  refine ⟨⟨i1, i2, i3⟩, ?_, ⟨fun z hz => ?_, fun z z' hz hz' hne he => ?_⟩, fun z hz => ?_, fun s' hs' => ?_, fun k hk => ?_⟩
  · rcases i4 with e | ⟨s', s1, s2, s3, s4⟩
    · exact Or.inl e
    · refine Or.inr ⟨s', s1, s2, s3, ?_⟩
      rw [e6, upd_n (fun e => n2 (by rw [← e]; exact s4))]
      exact s4
  · rw [e3, e6]
    by_cases e : a 3 z = nI s
    · exact Or.inl (if_pos ⟨Nat.zero_le _, by omega, e⟩)
    · rcases i5 z hz with e' | ⟨s', s1, s2, s3⟩
      · exact Or.inl ((if_neg (fun y => e y.2.2)).trans e')
      · refine Or.inr ⟨s', s1, (if_neg (fun y => e y.2.2)).trans s2, ?_⟩
        rw [upd_n (fun y => e (by rw [s2, y]))]
        exact s3
  · rw [e3] at he ⊢
    by_cases e : a 3 z = nI s
    · exact if_pos ⟨Nat.zero_le _, by omega, e⟩
    · have g1 : (if 0 ≤ z ∧ z < 0 + nz ∧ a 3 z = nI s then (-1 : Int32) else a 3 z) = a 3 z := if_neg (fun y => e y.2.2)
      by_cases e' : a 3 z' = nI s
      · have g2 : (if 0 ≤ z' ∧ z' < 0 + nz ∧ a 3 z' = nI s then (-1 : Int32) else a 3 z') = -1 := if_pos ⟨Nat.zero_le _, by omega, e'⟩
        exact he.trans g2
      · have g2 : (if 0 ≤ z' ∧ z' < 0 + nz ∧ a 3 z' = nI s then (-1 : Int32) else a 3 z') = a 3 z' := if_neg (fun y => e' y.2.2)
        exact g1.trans (i6 z z' hz hz' hne (g1.symm.trans (he.trans g2)))
  · rw [eo 1 (by omega) (by omega), eo 2 (by omega) (by omega)]
    exact i7 z hz
  · rw [eo 4 (by omega) (by omega), eo 5 (by omega) (by omega), e6]
    refine ⟨(i8 s' hs').1, (i8 s' hs').2.1, ?_⟩
    by_cases e : s' = s
    · rw [e, upd_e]; decide
    · rw [upd_n e]; exact (i8 s' hs').2.2
  · rw [eo 10 (by omega) (by omega)]
    exact i9 k hk
/-- a sheet is taken out -/
theorem s_lout (h : LLn g B l D nz ns q sa tv pg n f a p) (hs : s < ns) (hst : a 6 s = 0 ∨ a 6 s = 1) : ∃ g', Sx (Aw l D nz ns) 0 g g' ∧ LLn g' B l D nz ns q sa tv pg n f (spoilL nz (nI s) a) (upd p s (-2)) ∧ ∀ d K, EvM d 89 [.ref l, .ref (D 2 s), .int 5] g K = K (.inl none) g' := by
  have hR := h.1
  have hI := h.2.2.2.1
  have hP := h.2.2.2.2.1
  have n6 := h.2.2.2.2.2.1.2
  have n20 := hI.1.2.1
  have sx : Sx (Aw l D nz ns) 0 g (wF (wF g (D 2 s) 3 (.int (-2))) (D 2 s) 2 (.int 5)) := Sx.of ((Sm.wF (Aw_s hs)).tr (Sm.wF (Aw_s hs))) rfl rfl
  have h2 := (hR.ws3 h.2.1.1 hs (x := -2)).ws2 h.2.1.1 hs (x := 5)
  have zs : zn (nI s) = s := zn_nI (by omega)
  have h3 : LRc (wF (wF g (D 2 s) 3 (.int (-2))) (D 2 s) 2 (.int 5)) B l D nz ns q sa tv f (spoilL nz (nI s) a) (upd p s (-2)) := h2.cf rfl (fun _ y => y) (fun i hi => by
    unfold spoilL
    rw [upf_ne _ _ hi, zs])
  have e3 : spoilL nz (nI s) a 3 = fun j => if 0 ≤ j ∧ j < 0 + nz ∧ a 3 j = nI s then -1 else a 3 j := by
    unfold spoilL
    rw [upf_same, un_eq]
  have e3z : ∀ z, spoilL nz (nI s) a 3 z = if 0 ≤ z ∧ z < 0 + nz ∧ a 3 z = nI s then -1 else a 3 z := fun z => congrFun e3 z
  have n2 : ¬ f 3 = nI s := fun e => by
    rcases hI.2.1 with ⟨e1, -⟩ | ⟨s', s1, s2, -, s4⟩
    · exact nI_nm1 (s := s) (by omega) (e.symm.trans e1)
    · have := nI_inj (by omega) (by omega) (e.symm.trans s2)
      rw [← this] at s4
      rcases hst with e | e <;> rw [e] at s4 <;> exact absurd s4 (by decide)
  have hP' : PLc nz ns f (spoilL nz (nI s) a) (upd p s (-2)) := by
    refine PLc_out (a' := spoilL nz (nI s) a) (f' := f) hI hP n6 hs (fun z hz => ?_) n2 (fun s' z hs' hne hz => ?_) (fun s' hs' hne => Iff.rfl)
    · rw [e3z]
      by_cases e : a 3 z = nI s
      · rw [show (if 0 ≤ z ∧ z < 0 + nz ∧ a 3 z = nI s then (-1 : Int32) else a 3 z) = -1 from if_pos ⟨Nat.zero_le _, by omega, e⟩]
        exact fun y => nI_nm1 (s := s) (by omega) y.symm
      · rw [show (if 0 ≤ z ∧ z < 0 + nz ∧ a 3 z = nI s then (-1 : Int32) else a 3 z) = a 3 z from if_neg (fun y => e y.2.2)]
        exact e
    · rw [e3z]
      by_cases e : a 3 z = nI s
      · rw [show (if 0 ≤ z ∧ z < 0 + nz ∧ a 3 z = nI s then (-1 : Int32) else a 3 z) = -1 from if_pos ⟨Nat.zero_le _, by omega, e⟩, e]
        exact ⟨fun y => absurd y.symm (nI_nm1 (by omega)), fun y => absurd (nI_inj (by omega) (by omega) y).symm hne⟩
      · rw [show (if 0 ≤ z ∧ z < 0 + nz ∧ a 3 z = nI s then (-1 : Int32) else a 3 z) = a 3 z from if_neg (fun y => e y.2.2)]
  refine ⟨_, sx, h.nw sx h3 (sp_inv hI hs hst) hP', fun d K => ?_⟩
  simp only [in89, i89_0, i89_1, i89_3, i89_6, i89_7, i89_8, i89_11, nl_i, nl_r, nl_0, nl_j, nb0, nb1, nbI, orv_s, konN_v, konN_n, konN_e, true_and, and_true, and_self, if_true, if_false, ite_true, ite_false, isR_ref, true_or, or_true, isR_null, rg10, rg11, rg12, rg13, rg14, rg15, rg16, rh13, rh14, rh15, rh16, bI_T, bI_F, bI_Fb, i1z, Bool.false_eq_true, ls_k hR hs, k_wF]
theorem toQu_1 {x : Int32} {w : LSt} : (toQuF q k x w).1 1 = w.1 1 := by
  unfold toQuF
  split <;> rfl
theorem move_1 {w : LSt} : (moveF sa q k w).1 1 = w.1 1 := by
  unfold moveF
  dsimp only
  repeat' split
  all_goals first | rfl | exact toQu_1
theorem itd_1 : ∀ (j : Nat) (w : LSt), (itd (moveF sa q) j w).1 1 = w.1 1
  | 0, _ => rfl
  | j + 1, w => (itd_1 j _).trans move_1
theorem qu_1 {w : LSt} : (quL sa q w).1 1 = w.1 1 := by
  unfold quL
  repeat' split
  all_goals rfl
theorem tick_1 {w : ULt} : (tickL sa q pg n w).2.1 1 = w.2.1 1 + 1 := by
  unfold tickL fillL
  dsimp only
  rw [upf_same, itd_1, qu_1]
theorem rn_1 : ∀ (j : Nat) (w : ULt) {ck : Nat}, w.2.1 1 = nI ck → (rnF sa q pg n j w).2.1 1 = nI (ck + j)
  | 0, _, ck, e => e
  | j + 1, w, ck, e => by
    have h1 : (tickL sa q pg n w).2.1 1 = nI (ck + 1) := by rw [tick_1, e]; exact nI_add ck 1
    have h2 := rn_1 j (tickL sa q pg n w) h1
    rw [show ck + 1 + j = ck + (j + 1) by omega] at h2
    exact h2
end LWX
