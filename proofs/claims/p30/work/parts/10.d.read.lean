/-! THE LAW'S LINE: the share of a heating -/
/-- as Sm, with at most c more cells and slots -/
def Sx (W : Nat → Prop) (c : Nat) (g g' : AH) : Prop := Sm W g g' ∧ hN g' ≤ hN g + c ∧ hS g' ≤ hS g + c
def noW (_ : Nat) : Prop := False
theorem Sx.rf {W : Nat → Prop} {c : Nat} {g : AH} : Sx W c g g := ⟨Sm.rf, by omega, by omega⟩
theorem Sx.tr {W : Nat → Prop} {c1 c2 : Nat} {g g1 g2 : AH} (h1 : Sx W c1 g g1) (h2 : Sx W c2 g1 g2) : Sx W (c1 + c2) g g2 := ⟨h1.1.tr h2.1, by have := h1.2.1; have := h2.2.1; omega, by have := h1.2.2; have := h2.2.2; omega⟩
theorem Sx.mo {W V : Nat → Prop} {c c2 : Nat} {g g' : AH} (h : Sx W c g g') (hv : ∀ i, i < hN g → W i → V i) (hc : c ≤ c2) : Sx V c2 g g' := ⟨h.1.mo hv, by have := h.2.1; omega, by have := h.2.2; omega⟩
theorem Sx.no {V : Nat → Prop} {c c2 : Nat} {g g' : AH} (h : Sx noW c g g') (hc : c ≤ c2) : Sx V c2 g g' := h.mo (fun _ _ z => z.elim) hc
theorem Sx.of {W : Nat → Prop} {g g' : AH} (h : Sm W g g') (h1 : hN g' = hN g) (h2 : hS g' = hS g) : Sx W 0 g g' := ⟨h, by omega, by omega⟩
/-- the term of a line: its tree, or none; the class's steps pg, n -/
def TMr (g : AH) (B : Nat → Prop) (tv : Value) (pg : Nat → Int32) (n : Nat) : Prop :=
  (tv = .null ∧ n = 3 ∧ pg 0 = 400 ∧ pg 1 = -5 ∧ pg 2 = -4) ∨ ∃ a tx L V, tv = .ref a ∧ NodeR g B 2 a tx L V ∧ n = L.length ∧ ∀ j, j < L.length → pg j = L.getD j 0
theorem TMr.keep {g g' : AH} {B W : Nat → Prop} {tv : Value} {pg : Nat → Int32} {n : Nat} (h : TMr g B tv pg n) (hs : Sm W g g') (hB : ∀ i, B i → ¬ W i) : TMr g' B tv pg n := by
  rcases h with h | ⟨a, tx, L, V, h1, h2, h3⟩
  · exact Or.inl h
  · exact Or.inr ⟨a, tx, L, V, h1, NodeR.keep hs hB h2, h3⟩
theorem gx_run {k n : Nat} {L : List Int32} {V : Int32 → Int32 → Int32 → Int32} (h : GXc k L V) (hk : k ≤ 11) {pg stk : Nat → Int32} {th z gp : Int32} (h1 : bd th) (h2 : bd z) (h3 : bd gp) (hn : n = L.length) (hp : ∀ j, j < L.length → pg j = L.getD j 0) : vRun pg n th z gp stk 0 = V th z gp := by
  obtain ⟨-, x⟩ := h th z gp h1 h2 h3
  obtain ⟨s', e1, e2, -⟩ := x pg 0 (fun j hj => by rw [Nat.zero_add]; exact hp j hj) stk 0 (by omega)
  unfold vRun
  rw [hn, e1]
  exact e2
theorem lim_sh {v : Int32} : (if (if v.toInt64 < 1000 then v.toInt64 else 1000) < 0 then (0 : Int64) else (if v.toInt64 < 1000 then v.toInt64 else 1000)).toInt32 = lim v 0 1000 := by
  unfold lim
  have e : v.toInt64.toInt = v.toInt := Int32.toInt_toInt64 v
  have e3 : v.toInt64.toInt32 = v := Int32.toInt_inj.mp (by
    rw [Int64.toInt_toInt32, e]
    have := v.toInt_lt
    have := v.le_toInt
    exact Int.bmod_eq_of_le (by omega) (by omega))
  have c0 : (v.toInt64 < 1000) = (v.toInt < 1000) := by rw [i64_lt, e]; rfl
  have c1 : (v.toInt64 < 0) = (v.toInt < 0) := by rw [i64_lt, e]; rfl
  have c2 : (0 ≤ v) = ((0 : Int) ≤ v.toInt) := by rw [i32_le]; rfl
  have c3 : (v ≤ 1000) = (v.toInt ≤ (1000 : Int)) := by rw [i32_le]; rfl
  by_cases h1 : v.toInt < 1000
  · rw [if_pos (c0.mpr h1)]
    by_cases h2 : v.toInt < 0
    · rw [if_pos (c1.mpr h2), if_neg (fun z => by rw [c2] at z; omega)]
      rfl
    · rw [if_neg (fun z => h2 (c1.mp z)), if_pos (c2.mpr (by omega)), if_pos (c3.mpr (by omega)), e3]
  · rw [if_neg (fun z => h1 (c0.mp z)), if_neg (by decide), if_pos (c2.mpr (by omega))]
    by_cases h2 : v.toInt ≤ 1000
    · rw [if_pos (c3.mpr h2)]
      refine Int32.toInt_inj.mp ?_
      show (1000 : Int) = v.toInt
      omega
    · rw [if_neg (fun z => h2 (c3.mp z))]
      rfl
theorem th_k {th : Int32} (h0 : 2 ≤ th) (h1 : th ≤ 19) : ∃ k, 2 ≤ k ∧ k ≤ 19 ∧ th = nI k := by
  rw [i32_le] at h0 h1
  have h0 : (2 : Int) ≤ th.toInt := h0
  have h1 : th.toInt ≤ 19 := h1
  refine ⟨th.toInt.toNat, by omega, by omega, Int32.toInt_inj.mp ?_⟩
  rw [nI_toInt (by omega)]
  omega
theorem lim_400 {th : Int32} (h0 : 2 ≤ th) (h1 : th ≤ 19) : lim (resC (opC 5) (nI 400) th) 0 1000 = 400 / th := by
  obtain ⟨k, k2, k19, rfl⟩ := th_k h0 h1
  rcases (show k = 2 ∨ k = 3 ∨ k = 4 ∨ k = 5 ∨ k = 6 ∨ k = 7 ∨ k = 8 ∨ k = 9 ∨ k = 10 ∨ k = 11 ∨ k = 12 ∨ k = 13 ∨ k = 14 ∨ k = 15 ∨ k = 16 ∨ k = 17 ∨ k = 18 ∨ k = 19 by omega) with e | e | e | e | e | e | e | e | e | e | e | e | e | e | e | e | e | e <;> subst e <;> decide
theorem bd_th {th : Int32} (h0 : 2 ≤ th) (h1 : th ≤ 19) : bd th := by
  rw [i32_le] at h0 h1
  have h0 : (2 : Int) ≤ th.toInt := h0
  have h1 : th.toInt ≤ 19 := h1
  refine ⟨?_, ?_⟩ <;> rw [i32_le]
  · show (-1000000 : Int) ≤ _; omega
  · show _ ≤ (1000000 : Int); omega
theorem wJ_eq {g : AH} {i : Nat} {f : Nat → Int64} : hJ (wJ g i f) i = f := if_pos rfl
theorem vpl_eq {f : Nat → Int64} {k : Nat} {v : Int64} : vp_updL f k v k = v := if_pos rfl
theorem vpl_ne {f : Nat → Int64} {k l : Nat} {v : Int64} (h : ¬ l = k) : vp_updL f k v l = f l := if_neg h
theorem zn_1 : Int32.toNatClampNeg 1 = 1 := by decide
theorem zn_3 : Int32.toNatClampNeg 3 = 3 := by decide
theorem zn_4 : Int32.toNatClampNeg 4 = 4 := by decide
theorem ibk {k : Int32} {n : Nat} (h : inb k n) : inb k n = True := eq_true h
section SH
variable {g : AH} {B : Nat → Prop} {l n : Nat} {tv : Value} {pg stk : Nat → Int32} {th z gp : Int32}
theorem s_share (hk7 : hk g l = 7) (hF4 : hF g l 4 = tv) (hT : TMr g B tv pg n) (h0 : 2 ≤ th) (h1 : th ≤ 19) (h2 : bd z) (h3 : bd gp) :
    ∃ g', Sx noW 3 g g' ∧ ∀ d K, EvM (d + 4) 88 [.ref l, .int th, .int z, .int gp] g K = K (.inl (some (.int (lim (vRun pg n th z gp stk 0) 0 1000)))) g' := by
  rcases hT with ⟨rfl, en, p0, p1, p2⟩ | ⟨a, tx, L, V, rfl, hN2, en, hp⟩
  · refine ⟨g, Sx.rf, fun d K => ?_⟩
    have hv : vRun pg n th z gp stk 0 = resC (opC 5) (nI 400) th := gx_run (V := fun th z gp => resC (opC 5) (nI 400) (vrV 0 th z gp)) (gc_op (k := 5) (gc_mono (k' := 2) (gc_num (n := 400) (by omega)) (by omega)) (gc_var (j := 0)) (by omega)) (by omega) (bd_th h0 h1) h2 h3 en (fun j hj => by
      rcases (show j = 0 ∨ j = 1 ∨ j = 2 by simp at hj; omega) with rfl | rfl | rfl
      · exact p0
      · exact p1
      · exact p2)
    have hn : ¬ th = 0 := fun y => by rw [y] at h0; exact absurd h0 (by decide)
    rw [hv, lim_400 h0 h1]
    simp only [in88, i88_0, i88_1, i88_4_N, i88_4_R, i88_7, i88_10, i88_11, i88_12, i88_15, i88_16, i88_19, i88_20, i88_23, i88_24, i88_26, i88_27, i88_28, i88_29, i88_30, i88_31, i88_32, i88_33, i88_34, i88_35, i88_36, i88_37, i88_38, i88_39, i88_40, i88_41, i88_44, i88_47, i88_50, i88_51, nl_i, nl_r, nl_0, nl_j, nb0, nb1, nbI, orv_s, konN_v, konN_n, konN_e, true_and, and_true, and_self, if_true, if_false, ite_true, ite_false, isR_ref, true_or, or_true, isR_null, rg10, rg11, rg12, rg13, rg14, rg15, rg16, rh13, rh14, rh15, rh16, bI_T, bI_F, bI_Fb, i1z, Bool.false_eq_true, hk7, hF4, hn, not_false_eq_true]
  · have hv : vRun pg n th z gp stk 0 = V th z gp := gx_run hN2.gx.1 (by omega) (bd_th h0 h1) h2 h3 en hp
    have s1 : Sm noW g (alA g 12 3) := Sm.alA
    have s2 := ((s1.mo (V := fun i => i = hN g) (fun _ _ z => z.elim)).tr (Sm.wJ (W := fun i => i = hN g) (f := vp_updL (hJ (alA g 12 3) (hN g)) 0 th.toInt64) rfl)).tr ((Sm.wJ (W := fun i => i = hN g) (f := vp_updL (vp_updL (hJ (alA g 12 3) (hN g)) 0 th.toInt64) 1 z.toInt64) rfl).tr (Sm.wJ (W := fun i => i = hN g) (f := vp_updL (vp_updL (vp_updL (hJ (alA g 12 3) (hN g)) 0 th.toInt64) 1 z.toInt64) 2 gp.toInt64) rfl))
    have s3 : Sm noW g _ := s2.mo (fun i hi z => by omega)
    have hnn := NodeR.keep s3 (fun _ _ z => z) hN2
    refine ⟨_, ⟨s3, ?_, ?_⟩, fun d K => ?_⟩
    · show hN g + 1 ≤ _; omega
    · show hS g + 3 ≤ _; omega
    · have ka : hk (alA g 12 3) a = 8 := (s1.k hN2.k.1.2).trans hN2.k.2
      have kk : hk (alA g 12 3) (hN g) = 12 := alA_k
      have ll : hl (alA g 12 3) (hN g) = 3 := alA_l
      have sv := fun K => s_nvalue (g := wJ (wJ (wJ (alA g 12 3) (hN g) (vp_updL (hJ (alA g 12 3) (hN g)) 0 th.toInt64)) (hN g) (vp_updL (vp_updL (hJ (alA g 12 3) (hN g)) 0 th.toInt64) 1 z.toInt64)) (hN g) (vp_updL (vp_updL (vp_updL (hJ (alA g 12 3) (hN g)) 0 th.toInt64) 1 z.toInt64) 2 gp.toInt64)) (d := d) (th := th) (z := z) (gp := gp) (b := hN g) (K := K) ⟨alA_k (g := g) (kd := 12) (n := 3), alA_l (g := g) (kd := 12) (n := 3)⟩ (by rw [wJ_eq, vpl_ne (by omega), vpl_ne (by omega), vpl_eq]) (by rw [wJ_eq, vpl_ne (by omega), vpl_eq]) (by rw [wJ_eq, vpl_eq]) 2 hnn
      rw [hv, ← lim_sh]
      have k1 : ∀ (h : AH) (i j : Nat) (f : Nat → Int64), hk (wJ h i f) j = hk h j := fun _ _ _ _ => rfl
      have l1 : ∀ (h : AH) (i j : Nat) (f : Nat → Int64), hl (wJ h i f) j = hl h j := fun _ _ _ _ => rfl
      simp only [in88, i88_0, i88_1, i88_4_N, i88_4_R, i88_7, i88_10, i88_11, i88_12, i88_15, i88_16, i88_19, i88_20, i88_23, i88_24, i88_26, i88_27, i88_28, i88_29, i88_30, i88_31, i88_32, i88_33, i88_34, i88_35, i88_36, i88_37, i88_38, i88_39, i88_40, i88_41, i88_44, i88_47, i88_50, i88_51, nl_i, nl_r, nl_0, nl_j, nb0, nb1, nbI, orv_s, konN_v, konN_n, konN_e, true_and, and_true, and_self, if_true, if_false, ite_true, ite_false, isR_ref, true_or, or_true, isR_null, rg10, rg11, rg12, rg13, rg14, rg15, rg16, rh13, rh14, rh15, rh16, bI_T, bI_F, bI_Fb, i1z, Bool.false_eq_true, hk7, hF4, k1, l1, kk, ll, ka, wJ_eq, zn_0, zn_1, zn_2, zn_3, ibk (show inb 0 3 by decide), ibk (show inb 1 3 by decide), ibk (show inb 2 3 by decide), show (¬ ((3 : Int32) < 0 ∨ 60000000 < 3)) = True from eq_true (by decide), hN2.k.2, hnn.k.2, sv]
end SH
