/-! HEAT EXPRESSIONS: the law's trees and the steps of the class -/
def bd (x : Int32) : Prop := -1000000 ≤ x ∧ x ≤ 1000000
/-- the steps L come to V, with at most k levels of the stack -/
def GXc (k : Nat) (L : List Int32) (V : Int32 → Int32 → Int32 → Int32) : Prop := ∀ th z gp : Int32, bd th → bd z → bd gp → bd (V th z gp) ∧
  ∀ (pg : Nat → Int32) (i : Nat), (∀ j, j < L.length → pg (i + j) = L.getD j 0) → ∀ (stk : Nat → Int32) (c : Nat), c + k ≤ 11 → ∃ stk', itn (vStep pg th z gp) i L.length (c, stk) = (c + 1, stk') ∧ stk' c = V th z gp ∧ ∀ l, l < c → stk' l = stk l
theorem gD_1 {L0 L : List Int32} {j : Nat} (h : j < L0.length) : (L0 ++ L).getD j 0 = L0.getD j 0 := by
  rw [List.getD_eq_getElem?_getD, List.getD_eq_getElem?_getD, List.getElem?_append_left h]
theorem gD_2 {L0 L : List Int32} {j : Nat} : (L0 ++ L).getD (L0.length + j) 0 = L.getD j 0 := by
  rw [List.getD_eq_getElem?_getD, List.getD_eq_getElem?_getD, List.getElem?_append_right (by omega), Nat.add_sub_cancel_left]
theorem itn_add {α : Type} (f : Nat → α → α) : ∀ (a b k : Nat) (s : α), itn f k (a + b) s = itn f (k + a) b (itn f k a s)
  | 0, b, k, s => by rw [Nat.zero_add]; rfl
  | a + 1, b, k, s => by
    rw [show a + 1 + b = (a + b) + 1 by omega, itn, itn_add f a b (k + 1) (f k s), itn, show k + 1 + a = k + (a + 1) by omega]
theorem i64_le {x y : Int64} : (x ≤ y) = (x.toInt ≤ y.toInt) := propext Int64.le_iff_toInt_le
theorem i64_lt {x y : Int64} : (x < y) = (x.toInt < y.toInt) := propext Int64.lt_iff_toInt_lt
theorem lim6_ok (e : Int64) : bd (lim6 e) ∧ (lim6 e).toInt64 = (if (if e < 1000000 then e else 1000000) < -1000000 then -1000000 else (if e < 1000000 then e else 1000000)) := by
  unfold lim6 bd
  by_cases h1 : -1000000 ≤ e
  · rw [if_pos h1]
    have h1' := h1
    rw [i64_le] at h1'
    have h1' : (-1000000 : Int) ≤ e.toInt := h1'
    by_cases h2 : e ≤ 1000000
    · rw [if_pos h2]
      rw [i64_le] at h2
      have h2 : e.toInt ≤ 1000000 := h2
      have h3 : e.toInt32.toInt = e.toInt := by
        rw [Int64.toInt_toInt32]
        exact Int.bmod_eq_of_le (by omega) (by omega)
      refine ⟨⟨?_, ?_⟩, ?_⟩
      · rw [i32_le, h3]; exact h1'
      · rw [i32_le, h3]; exact h2
      · have e0 : e.toInt32.toInt64 = e := Int64.toInt_inj.mp (by rw [Int32.toInt_toInt64, h3])
        rw [e0]
        by_cases h4 : e < 1000000
        · rw [if_pos h4, if_neg]
          rw [i64_lt]
          show ¬ e.toInt < -1000000
          omega
        · rw [if_neg h4, if_neg (by decide)]
          refine Int64.toInt_inj.mp ?_
          rw [i64_lt] at h4
          have h4 : ¬ e.toInt < 1000000 := h4
          show e.toInt = 1000000
          omega
    · rw [if_neg h2]
      refine ⟨⟨by decide, by decide⟩, ?_⟩
      have h5 : ¬ e < 1000000 := fun y => h2 (by
        rw [i64_lt] at y
        rw [i64_le]
        exact Int.le_of_lt y)
      rw [if_neg h5, if_neg (by decide)]
      rfl
  · rw [if_neg h1]
    refine ⟨⟨by decide, by decide⟩, ?_⟩
    rw [i64_le] at h1
    have h1 : ¬ (-1000000 : Int) ≤ e.toInt := h1
    have h2 : e < 1000000 := by
      rw [i64_lt]
      show e.toInt < (1000000 : Int)
      omega
    rw [if_pos h2, if_pos]
    · rfl
    · rw [i64_lt]
      show e.toInt < -1000000
      omega
/-- the class's code of an operation of the law's -/
def opC (k : Nat) : Int32 := if k = 2 then -1 else if k = 3 then -2 else if k = 4 then -3 else -4
def opL (k : Nat) (a b : Int64) : Int64 := if k = 2 then a + b else if k = 3 then a - b else if k = 4 then a * b else if b = 0 then 0 else a / b
theorem exC_ok {k : Nat} {l r : Int32} : exC (opC k) l r = opL k l.toInt64 r.toInt64 := by
  unfold exC opC opL
  by_cases h2 : k = 2
  · rw [if_pos h2, if_pos h2, if_pos rfl]
  · rw [if_neg h2, if_neg h2]
    by_cases h3 : k = 3
    · rw [if_pos h3, if_pos h3, if_neg (by decide), if_pos rfl]
    · rw [if_neg h3, if_neg h3]
      by_cases h4 : k = 4
      · rw [if_pos h4, if_pos h4, if_neg (by decide), if_neg (by decide), if_pos rfl]
      · rw [if_neg h4, if_neg h4, if_neg (by decide), if_neg (by decide), if_neg (by decide)]
        by_cases h0 : r = 0
        · rw [if_pos h0, if_pos (i64z.mpr h0)]
        · rw [if_neg h0, if_neg (fun z => h0 (i64z.mp z))]
theorem gc_num {n : Nat} (hn : n ≤ 9999) : GXc 1 [nI n] (fun _ _ _ => nI n) := by
  intro th z gp b1 b2 b3
  refine ⟨⟨?_, ?_⟩, fun pg i hj stk c q => ⟨upd stk c (nI n), ?_, upd_e, fun l hl => upd_n (by omega)⟩⟩
  · rw [i32_le, nI_toInt (by omega)]; show (-1000000 : Int) ≤ _; omega
  · rw [i32_le, nI_toInt (by omega)]; show _ ≤ (1000000 : Int); omega
  · have e : pg i = nI n := hj 0 (show 0 < 1 by omega)
    have h0 : ¬ nI n < 0 := nI_pos (by omega)
    show vStep pg th z gp i (c, stk) = _
    rw [vs_push (by rw [e]; exact fun z => h0 z.1) (by omega), e]
    unfold vOf
    rw [if_neg h0]
def vrC (j : Nat) : Int32 := if j = 0 then -5 else if j = 1 then -6 else -7
def vrV (j : Nat) (th z gp : Int32) : Int32 := if j = 0 then th else if j = 1 then z else gp
theorem gc_var {j : Nat} : GXc 1 [vrC j] (vrV j) := by
  intro th z gp b1 b2 b3
  refine ⟨?_, fun pg i hj stk c q => ⟨upd stk c (vrV j th z gp), ?_, upd_e, fun l hl => upd_n (by omega)⟩⟩
  · unfold vrV
    repeat' split
    all_goals assumption
  · have e : pg i = vrC j := hj 0 (show 0 < 1 by omega)
    show vStep pg th z gp i (c, stk) = _
    have hn : ¬ (vrC j < 0 ∧ -4 ≤ vrC j) := by
      unfold vrC
      repeat' split
      all_goals decide
    have hv : vOf (vrC j) th z gp = vrV j th z gp := by
      unfold vOf vrC vrV
      by_cases h0 : j = 0
      · rw [if_pos h0, if_pos h0, if_pos (by decide), if_pos rfl]
      · rw [if_neg h0, if_neg h0]
        by_cases h1 : j = 1
        · rw [if_pos h1, if_pos h1, if_pos (by decide), if_neg (by decide), if_pos rfl]
        · rw [if_neg h1, if_neg h1, if_pos (by decide), if_neg (by decide), if_neg (by decide)]
    rw [vs_push (by rw [e]; exact hn) (by omega), e, hv]
theorem gc_op {a b k : Nat} {L M : List Int32} {V W : Int32 → Int32 → Int32 → Int32} (h1 : GXc a L V) (h2 : GXc b M W) (hab : b + 1 ≤ a) : GXc a (L ++ (M ++ [opC k])) (fun th z gp => resC (opC k) (V th z gp) (W th z gp)) := by
  intro th z gp b1 b2 b3
  obtain ⟨-, c1⟩ := h1 th z gp b1 b2 b3
  obtain ⟨-, c2⟩ := h2 th z gp b1 b2 b3
  refine ⟨(lim6_ok _).1, fun pg i hj stk c q => ?_⟩
  have len : (L ++ (M ++ [opC k])).length = L.length + (M.length + 1) := by simp
  rw [len] at hj ⊢
  obtain ⟨s1, e1, v1, k1⟩ := c1 pg i (fun j hj' => (hj j (by omega)).trans (gD_1 hj')) stk c q
  obtain ⟨s2, e2, v2, k2⟩ := c2 pg (i + L.length) (fun j hj' => by rw [Nat.add_assoc, hj (L.length + j) (by omega), gD_2, gD_1 hj']) s1 (c + 1) (by omega)
  have e3 : pg (i + L.length + M.length) = opC k := by
    rw [Nat.add_assoc, hj (L.length + M.length) (by omega), gD_2]
    have : (M ++ [opC k]).getD (M.length + 0) 0 = [opC k].getD 0 0 := gD_2
    rw [Nat.add_zero] at this
    exact this
  have hop : opC k < 0 ∧ -4 ≤ opC k := by
    unfold opC
    repeat' split
    all_goals decide
  refine ⟨upd s2 c (resC (opC k) (s2 c) (s2 (c + 1))), ?_, ?_, fun l hl => ?_⟩
  · rw [itn_add, e1, itn_add, e2]
    show vStep pg th z gp (i + L.length + M.length) (c + 2, s2) = _
    rw [vs_op (by rw [e3]; exact hop), e3]
  · rw [upd_e, v2, k2 c (by omega), v1]
  · rw [upd_n (by omega), k2 l (by omega), k1 l hl]
theorem gc_mono {k k' : Nat} {L : List Int32} {V : Int32 → Int32 → Int32 → Int32} (h : GXc k L V) (hk : k ≤ k') : GXc k' L V := fun th z gp h1 h2 h3 => ⟨(h th z gp h1 h2 h3).1, fun pg i hj stk c q => (h th z gp h1 h2 h3).2 pg i hj stk c (by omega)⟩
/-- the digits of a number below 1000 -/
def dgs (n : Nat) : List Nat := if n < 10 then [48 + n] else if n < 100 then [48 + n / 10, 48 + n % 10] else [48 + n / 100, 48 + n / 10 % 10, 48 + n % 10]
def vrT (j : Nat) : List Nat := if j = 0 then [116, 104, 105, 99, 107, 110, 101, 115, 115] else if j = 1 then [122, 111, 110, 101] else [103, 97, 112]
def opT (k : Nat) : List Nat := if k = 2 then [43] else if k = 3 then [32, 45, 32] else if k = 4 then [42, 32] else [47]
def ownL (k : Nat) : Nat := if k < 4 then 1 else 2
def opTx (k : Nat) (tb tc : Nat → List Nat) (lev : Nat) : List Nat := if ownL k < lev then [40] ++ (tb (ownL k) ++ opT k ++ tc (ownL k + 1)) ++ [41] else tb (ownL k) ++ opT k ++ tc (ownL k + 1)
/-- the leaf at a -/
def LeafR (g : AH) (a : Nat) (tx : Nat → List Nat) (L : List Int32) (V : Int32 → Int32 → Int32 → Int32) : Prop :=
  (hF g a 0 = .int 0 ∧ ∃ n, n < 300 ∧ hF g a 1 = .int (nI n) ∧ (tx = fun _ => dgs n) ∧ L = [nI n] ∧ V = fun _ _ _ => nI n) ∨
  (hF g a 0 = .int 1 ∧ ∃ j, j < 3 ∧ hF g a 1 = .int (nI j) ∧ (tx = fun _ => vrT j) ∧ L = [vrC j] ∧ V = vrV j)
/-- the node at a: its texts, its steps, its value; depth d -/
def NodeR (g : AH) (B : Nat → Prop) : Nat → Nat → (Nat → List Nat) → List Int32 → (Int32 → Int32 → Int32 → Int32) → Prop
  | 0, a, tx, L, V => ((B a ∧ a < hN g) ∧ hk g a = 8) ∧ LeafR g a tx L V
  | d + 1, a, tx, L, V => ((B a ∧ a < hN g) ∧ hk g a = 8) ∧ (LeafR g a tx L V ∨ ∃ k b c tb tc Lb Lc Vb Vc, (2 ≤ k ∧ k < 6) ∧ (hF g a 0 = .int (nI k) ∧ hF g a 2 = .ref b ∧ hF g a 3 = .ref c) ∧ NodeR g B d b tb Lb Vb ∧ NodeR g B d c tc Lc Vc ∧ tx = opTx k tb tc ∧ L = Lb ++ (Lc ++ [opC k]) ∧ V = fun th z gp => resC (opC k) (Vb th z gp) (Vc th z gp))
theorem NodeR.k {g : AH} {B : Nat → Prop} : ∀ {d a tx L V}, NodeR g B d a tx L V → (B a ∧ a < hN g) ∧ hk g a = 8
  | 0, _, _, _, _, h => h.1
  | _ + 1, _, _, _, _, h => h.1
theorem NodeR.keep {g g' : AH} {B W : Nat → Prop} (hs : Sm W g g') (hB : ∀ i, B i → ¬ W i) : ∀ {d a tx L V}, NodeR g B d a tx L V → NodeR g' B d a tx L V := by
  have key : ∀ {a tx L V}, (B a ∧ a < hN g) → LeafR g a tx L V → LeafR g' a tx L V := fun {a tx L V} h1 h => by
    have e : ∀ k, hF g' a k = hF g a k := fun k => hs.F h1.2 (hB _ h1.1)
    unfold LeafR
    rw [e, e]
    exact h
  intro d
  induction d with
  | zero =>
    intro a tx L V h
    exact ⟨⟨⟨h.1.1.1, Nat.lt_of_lt_of_le h.1.1.2 hs.1⟩, (hs.k h.1.1.2).trans h.1.2⟩, key h.1.1 h.2⟩
  | succ d ih =>
    intro a tx L V h
    refine ⟨⟨⟨h.1.1.1, Nat.lt_of_lt_of_le h.1.1.2 hs.1⟩, (hs.k h.1.1.2).trans h.1.2⟩, ?_⟩
    have e : ∀ k, hF g' a k = hF g a k := fun k => hs.F h.1.1.2 (hB _ h.1.1.1)
    rcases h.2 with h2 | ⟨k, b, c, tb, tc, Lb, Lc, Vb, Vc, h1, ⟨h2, h3, h4⟩, h5, h6, h7⟩
    · exact Or.inl (key h.1.1 h2)
    · exact Or.inr ⟨k, b, c, tb, tc, Lb, Lc, Vb, Vc, h1, ⟨(e 0).trans h2, (e 2).trans h3, (e 3).trans h4⟩, ih h5, ih h6, h7⟩
theorem NodeR.up {g : AH} {B : Nat → Prop} : ∀ {d a tx L V}, NodeR g B d a tx L V → NodeR g B (d + 1) a tx L V
  | 0, _, _, _, _, h => ⟨h.1, Or.inl h.2⟩
  | d + 1, _, _, _, _, h => by
    refine ⟨h.1, ?_⟩
    rcases h.2 with h2 | ⟨k, b, c, tb, tc, Lb, Lc, Vb, Vc, h1, h2, h5, h6, h7⟩
    · exact Or.inl h2
    · exact Or.inr ⟨k, b, c, tb, tc, Lb, Lc, Vb, Vc, h1, h2, h5.up, h6.up, h7⟩
theorem LeafR.gx {g : AH} {a : Nat} {tx : Nat → List Nat} {L : List Int32} {V : Int32 → Int32 → Int32 → Int32} (h : LeafR g a tx L V) : GXc 1 L V ∧ L.length = 1 := by
  rcases h with ⟨-, n, hn, -, -, rfl, rfl⟩ | ⟨-, j, hj, -, -, rfl, rfl⟩
  · exact ⟨gc_num (by omega), rfl⟩
  · exact ⟨gc_var, rfl⟩
theorem NodeR.gx {g : AH} {B : Nat → Prop} : ∀ {d a tx L V}, NodeR g B d a tx L V → GXc (d + 1) L V ∧ L.length + 1 ≤ 2 ^ (d + 1)
  | 0, _, _, _, _, h => ⟨h.2.gx.1, by rw [h.2.gx.2]; decide⟩
  | d + 1, _, _, _, _, h => by
    have p : 2 ^ (d + 1 + 1) = 2 * 2 ^ (d + 1) := by rw [Nat.pow_succ]; omega
    have p1 : 1 ≤ 2 ^ d := Nat.one_le_two_pow
    have p2 : 2 ^ (d + 1) = 2 * 2 ^ d := by rw [Nat.pow_succ]; omega
    rcases h.2 with h2 | ⟨k, b, c, tb, tc, Lb, Lc, Vb, Vc, h1, h2, h5, h6, -, rfl, rfl⟩
    · exact ⟨gc_mono h2.gx.1 (by omega), by rw [h2.gx.2]; omega⟩
    · have x := h5.gx
      have y := h6.gx
      refine ⟨gc_op (gc_mono x.1 (by omega)) y.1 (by omega), ?_⟩
      rw [List.length_append, List.length_append]
      have := x.2
      have := y.2
      show _ + (_ + 1) + 1 ≤ _
      omega
section NV
variable {g : AH} {B : Nat → Prop} {b : Nat} {th z gp : Int32}
theorem leaf_value {d a tx L V} (h : LeafR g a tx L V) (hka : hk g a = 8) (hb : hk g b = 12 ∧ hl g b = 3) (h0 : hJ g b 0 = th.toInt64) (h1 : hJ g b 1 = z.toInt64) (h2 : hJ g b 2 = gp.toInt64) {K : AO → AH → Prop} : EvM d 100 [.ref a, .ref b] g K = K (.inl (some (.long (V th z gp).toInt64))) g := by
  rcases h with ⟨e0, n, hn, e1, -, -, rfl⟩ | ⟨e0, j, hj, e1, -, -, rfl⟩
  · simp only [in100, i100_0, i100_1, i100_4, i100_5, i100_8, i100_9, i100_12, i100_15, i100_16, i100_19, i100_20, i100_23, i100_24, i100_25, i100_28, i100_29, i100_30, i100_31, i100_34, i100_35, i100_38, i100_39, i100_40, i100_43, i100_44, i100_47, i100_49, i100_50, i100_53, i100_54, i100_57, i100_58, i100_60, i100_61, i100_64, i100_65, i100_68, i100_69, i100_72, i100_73, i100_75, i100_76, i100_79, i100_80, i100_83, i100_84, i100_87, i100_88, i100_90, i100_91, i100_94, i100_96, i100_97, i100_98, i100_101, i100_102, i100_105, i100_106, i100_108, i100_109, i100_111, i100_114, i100_117, i100_119, i100_122, i100_125, nl_i, nl_r, nl_0, nl_j, nb0, nb1, nbI, orv_s, konN_v, konN_n, konN_e, true_and, and_true, and_self, if_true, if_false, ite_true, ite_false, isR_ref, true_or, or_true, isR_null, rg10, rg11, rg12, rg13, rg14, rg15, rg16, rh13, rh14, rh15, rh16, bI_T, bI_F, bI_Fb, i1z, Bool.false_eq_true, hka, e0, e1, show ((2 : Int32) ≤ 0) = False from eq_false (by decide)]
  · have hi := inbT hj (show 3 < 2 ^ 31 by omega)
    have hz : (nI j).toNatClampNeg = j := nI_clamp (by omega)
    have hv : hJ g b j = (vrV j th z gp).toInt64 := by
      rcases (show j = 0 ∨ j = 1 ∨ j = 2 by omega) with rfl | rfl | rfl
      · exact h0
      · exact h1
      · exact h2
    simp only [in100, i100_0, i100_1, i100_4, i100_5, i100_8, i100_9, i100_12, i100_15, i100_16, i100_19, i100_20, i100_23, i100_24, i100_25, i100_28, i100_29, i100_30, i100_31, i100_34, i100_35, i100_38, i100_39, i100_40, i100_43, i100_44, i100_47, i100_49, i100_50, i100_53, i100_54, i100_57, i100_58, i100_60, i100_61, i100_64, i100_65, i100_68, i100_69, i100_72, i100_73, i100_75, i100_76, i100_79, i100_80, i100_83, i100_84, i100_87, i100_88, i100_90, i100_91, i100_94, i100_96, i100_97, i100_98, i100_101, i100_102, i100_105, i100_106, i100_108, i100_109, i100_111, i100_114, i100_117, i100_119, i100_122, i100_125, nl_i, nl_r, nl_0, nl_j, nb0, nb1, nbI, orv_s, konN_v, konN_n, konN_e, true_and, and_true, and_self, if_true, if_false, ite_true, ite_false, isR_ref, true_or, or_true, isR_null, rg10, rg11, rg12, rg13, rg14, rg15, rg16, rh13, rh14, rh15, rh16, bI_T, bI_F, bI_Fb, i1z, Bool.false_eq_true, hka, e0, e1, hb.1, hb.2, hi, hz, hv, show ((2 : Int32) ≤ 1) = False from eq_false (by decide), show ((1 : Int32) = 0) = False from eq_false (by decide)]
theorem s_nvalue (hb : hk g b = 12 ∧ hl g b = 3) (h0 : hJ g b 0 = th.toInt64) (h1 : hJ g b 1 = z.toInt64) (h2 : hJ g b 2 = gp.toInt64) : ∀ (n : Nat) {d a tx L V}, NodeR g B n a tx L V → ∀ {K : AO → AH → Prop}, EvM (d + 1 + n) 100 [.ref a, .ref b] g K = K (.inl (some (.long (V th z gp).toInt64))) g
  | 0, d, a, tx, L, V, h, K => leaf_value h.2 h.1.2 hb h0 h1 h2
  | n + 1, d, a, tx, L, V, h, K => by
    rcases h.2 with h3 | ⟨k, b1, c1, tb, tc, Lb, Lc, Vb, Vc, hk, ⟨e0, e2, e3⟩, h5, h6, -, -, rfl⟩
    · exact leaf_value h3 h.1.2 hb h0 h1 h2
    · have x1 := fun K => s_nvalue hb h0 h1 h2 n (d := d) h5 (K := K)
      have x2 := fun K => s_nvalue hb h0 h1 h2 n (d := d) h6 (K := K)
      have k2 : ((2 : Int32) ≤ nI k) = True := eq_true (by rw [i32_le, nI_toInt (by omega)]; show (2 : Int) ≤ _; omega)
      have fin : ∀ e : Int64, e = opL k (Vb th z gp).toInt64 (Vc th z gp).toInt64 → ((if (if e < 1000000 then e else 1000000) < -1000000 then -1000000 else (if e < 1000000 then e else 1000000)) : Int64) = (resC (opC k) (Vb th z gp) (Vc th z gp)).toInt64 := fun e he => by
        rw [he, ← exC_ok]
        exact (lim6_ok _).2.symm
      have hd : d + 1 + (n + 1) = (d + 1 + n) + 1 := rfl
      rw [hd]
      simp only [i100_0, i100_1, i100_4, i100_5, i100_8, i100_9, i100_12, i100_15, i100_16, i100_19, i100_20, i100_23, i100_24, i100_25, i100_28, i100_29, i100_30, i100_31, i100_34, i100_35, i100_38, i100_39, i100_40, i100_43, i100_44, i100_47, i100_49, i100_50, i100_53, i100_54, in100, nl_i, nl_r, nl_0, nl_j, nb0, nb1, nbI, orv_s, konN_v, konN_n, konN_e, true_and, and_true, and_self, if_true, if_false, ite_true, ite_false, isR_ref, true_or, or_true, isR_null, rg10, rg11, rg12, rg13, rg14, rg15, rg16, rh13, rh14, rh15, rh16, bI_T, bI_F, bI_Fb, i1z, Bool.false_eq_true, h.1.2, h5.k.2, h6.k.2, e0, e2, e3, k2, x1, x2]
      rcases (show k = 2 ∨ k = 3 ∨ k = 4 ∨ k = 5 by omega) with rfl | rfl | rfl | rfl
      · simp only [in100, i100_0, i100_1, i100_4, i100_5, i100_8, i100_9, i100_12, i100_15, i100_16, i100_19, i100_20, i100_23, i100_24, i100_25, i100_28, i100_29, i100_30, i100_31, i100_34, i100_35, i100_38, i100_39, i100_40, i100_43, i100_44, i100_47, i100_49, i100_50, i100_53, i100_54, i100_57, i100_58, i100_60, i100_61, i100_64, i100_65, i100_68, i100_69, i100_72, i100_73, i100_75, i100_76, i100_79, i100_80, i100_83, i100_84, i100_87, i100_88, i100_90, i100_91, i100_94, i100_96, i100_97, i100_98, i100_101, i100_102, i100_105, i100_106, i100_108, i100_109, i100_111, i100_114, i100_117, i100_119, i100_122, i100_125, nl_i, nl_r, nl_0, nl_j, nb0, nb1, nbI, orv_s, konN_v, konN_n, konN_e, true_and, and_true, and_self, if_true, if_false, ite_true, ite_false, isR_ref, true_or, or_true, isR_null, rg10, rg11, rg12, rg13, rg14, rg15, rg16, rh13, rh14, rh15, rh16, bI_T, bI_F, bI_Fb, i1z, Bool.false_eq_true, show (nI 2 = 2) = True from eq_true rfl, fin _ rfl]
        rw [fin _ (by rfl)]
      · simp only [in100, i100_0, i100_1, i100_4, i100_5, i100_8, i100_9, i100_12, i100_15, i100_16, i100_19, i100_20, i100_23, i100_24, i100_25, i100_28, i100_29, i100_30, i100_31, i100_34, i100_35, i100_38, i100_39, i100_40, i100_43, i100_44, i100_47, i100_49, i100_50, i100_53, i100_54, i100_57, i100_58, i100_60, i100_61, i100_64, i100_65, i100_68, i100_69, i100_72, i100_73, i100_75, i100_76, i100_79, i100_80, i100_83, i100_84, i100_87, i100_88, i100_90, i100_91, i100_94, i100_96, i100_97, i100_98, i100_101, i100_102, i100_105, i100_106, i100_108, i100_109, i100_111, i100_114, i100_117, i100_119, i100_122, i100_125, nl_i, nl_r, nl_0, nl_j, nb0, nb1, nbI, orv_s, konN_v, konN_n, konN_e, true_and, and_true, and_self, if_true, if_false, ite_true, ite_false, isR_ref, true_or, or_true, isR_null, rg10, rg11, rg12, rg13, rg14, rg15, rg16, rh13, rh14, rh15, rh16, bI_T, bI_F, bI_Fb, i1z, Bool.false_eq_true, h.1.2, e0, show (nI 3 = 2) = False from eq_false (by decide), show (nI 3 = 3) = True from eq_true rfl]
        rw [fin _ (by rfl)]
      · simp only [in100, i100_0, i100_1, i100_4, i100_5, i100_8, i100_9, i100_12, i100_15, i100_16, i100_19, i100_20, i100_23, i100_24, i100_25, i100_28, i100_29, i100_30, i100_31, i100_34, i100_35, i100_38, i100_39, i100_40, i100_43, i100_44, i100_47, i100_49, i100_50, i100_53, i100_54, i100_57, i100_58, i100_60, i100_61, i100_64, i100_65, i100_68, i100_69, i100_72, i100_73, i100_75, i100_76, i100_79, i100_80, i100_83, i100_84, i100_87, i100_88, i100_90, i100_91, i100_94, i100_96, i100_97, i100_98, i100_101, i100_102, i100_105, i100_106, i100_108, i100_109, i100_111, i100_114, i100_117, i100_119, i100_122, i100_125, nl_i, nl_r, nl_0, nl_j, nb0, nb1, nbI, orv_s, konN_v, konN_n, konN_e, true_and, and_true, and_self, if_true, if_false, ite_true, ite_false, isR_ref, true_or, or_true, isR_null, rg10, rg11, rg12, rg13, rg14, rg15, rg16, rh13, rh14, rh15, rh16, bI_T, bI_F, bI_Fb, i1z, Bool.false_eq_true, h.1.2, e0, show (nI 4 = 2) = False from eq_false (by decide), show (nI 4 = 3) = False from eq_false (by decide), show (nI 4 = 4) = True from eq_true rfl]
        rw [fin _ (by rfl)]
      · simp only [in100, i100_0, i100_1, i100_4, i100_5, i100_8, i100_9, i100_12, i100_15, i100_16, i100_19, i100_20, i100_23, i100_24, i100_25, i100_28, i100_29, i100_30, i100_31, i100_34, i100_35, i100_38, i100_39, i100_40, i100_43, i100_44, i100_47, i100_49, i100_50, i100_53, i100_54, i100_57, i100_58, i100_60, i100_61, i100_64, i100_65, i100_68, i100_69, i100_72, i100_73, i100_75, i100_76, i100_79, i100_80, i100_83, i100_84, i100_87, i100_88, i100_90, i100_91, i100_94, i100_96, i100_97, i100_98, i100_101, i100_102, i100_105, i100_106, i100_108, i100_109, i100_111, i100_114, i100_117, i100_119, i100_122, i100_125, nl_i, nl_r, nl_0, nl_j, nb0, nb1, nbI, orv_s, konN_v, konN_n, konN_e, true_and, and_true, and_self, if_true, if_false, ite_true, ite_false, isR_ref, true_or, or_true, isR_null, rg10, rg11, rg12, rg13, rg14, rg15, rg16, rh13, rh14, rh15, rh16, bI_T, bI_F, bI_Fb, i1z, Bool.false_eq_true, h.1.2, e0, show (nI 5 = 2) = False from eq_false (by decide), show (nI 5 = 3) = False from eq_false (by decide), show (nI 5 = 4) = False from eq_false (by decide), lg_cmp_eq]
        by_cases hz : (Vc th z gp).toInt64 = 0
        · rw [if_pos hz, fin _ (by unfold opL; rw [if_neg (by decide), if_neg (by decide), if_neg (by decide), if_pos hz])]
        · rw [if_neg hz]
          rw [show ∀ p : Prop, (¬ (Vc th z gp).toInt64 = 0 ∧ p) = p from fun p => propext (and_iff_right hz), fin _ (by unfold opL; rw [if_neg (by decide), if_neg (by decide), if_neg (by decide), if_neg hz])]
end NV
