/-! READING: a heat statement -/
def newHeatR (h : AH) (t n : Nat) (pg : Nat → Int32) : AH := wF (alA (wA (wF (alA h 10 n) t 0 (.ref (hN h))) (hN h) pg) 10 11) t 1 (.ref (hN h + 1))
/-- the heap with a new heat at its end -/
def hT3 (h : AH) (n : Nat) (pg : Nat → Int32) : AH := newHeatR (alO h 1 2 (dfl 0)) (hN h) n pg
section HT3
variable {h : AH} {T : Nat → Bool} {U S A : Nat → Nat → Int32} {J : Nat → Nat → Int64} {G : Nat → Nat} {s t n kd k i : Nat} {q pg f : Nat → Int32} {a : Nat → Nat → Int32} {v : Value} {fs : Nat → Value}
theorem alO_SP (hs : s < hN h) : alO (SP h s q a t) kd n fs = SP (alO h kd n fs) s q a t := by
  have hs : s < h.1 := hs
  refine ah_ext rfl rfl (fun _ => rfl) (fun i k => ?_) (fun _ => rfl) (fun _ => rfl) (fun _ => rfl) rfl
  show (if i = h.1 then fs else fun k => if i = s then (if k = 0 then Value.int (q 0) else if k = 1 then .int (q 1) else if k = 2 then .int (q 2) else if k = 10 then .ref t else h.2.2.2.1 i k) else h.2.2.2.1 i k) k = (if i = s then (if k = 0 then Value.int (q 0) else if k = 1 then .int (q 1) else if k = 2 then .int (q 2) else if k = 10 then .ref t else (if i = h.1 then fs else h.2.2.2.1 i) k) else (if i = h.1 then fs else h.2.2.2.1 i) k)
  by_cases e : i = h.1
  · have e2 : ¬ i = s := by omega
    rw [if_pos e, if_neg e2, if_pos e]
  · rw [if_neg e, if_neg e]
theorem alA_SP (hs : s + 7 < hN h) : alA (SP h s q a t) kd n = SP (alA h kd n) s q a t := by
  have hs : s + 7 < h.1 := hs
  refine ah_ext rfl rfl (fun _ => rfl) (fun _ _ => rfl) (fun i => ?_) (fun _ => rfl) (fun _ => rfl) rfl
  show (if i = h.1 then (fun _ => 0) else if s < i ∧ i ≤ s + 7 then a (i - s) else h.2.2.2.2.1 i) = (if s < i ∧ i ≤ s + 7 then a (i - s) else if i = h.1 then (fun _ => 0) else h.2.2.2.2.1 i)
  by_cases e : i = h.1
  · rw [if_pos e, if_neg (by omega), if_pos e]
  · rw [if_neg e, if_neg e]
theorem wF_SP (hi : ¬ i = s) : wF (SP h s q a t) i k v = SP (wF h i k v) s q a t := by
  refine ah_ext rfl rfl (fun _ => rfl) (fun j l => ?_) (fun _ => rfl) (fun _ => rfl) (fun _ => rfl) rfl
  show (if j = i ∧ l = k then v else if j = s then (if l = 0 then Value.int (q 0) else if l = 1 then .int (q 1) else if l = 2 then .int (q 2) else if l = 10 then .ref t else h.2.2.2.1 j l) else h.2.2.2.1 j l) = (if j = s then (if l = 0 then Value.int (q 0) else if l = 1 then .int (q 1) else if l = 2 then .int (q 2) else if l = 10 then .ref t else (if j = i ∧ l = k then v else h.2.2.2.1 j l)) else (if j = i ∧ l = k then v else h.2.2.2.1 j l))
  by_cases e : j = s
  · subst e
    have e2 : ¬ (j = i ∧ l = k) := fun z => hi z.1.symm
    simp only [e2, if_true, if_false]
  · rw [if_neg e, if_neg e]
theorem wA_SP (hi : s + 7 < i) : wA (SP h s q a t) i f = SP (wA h i f) s q a t := by
  refine ah_ext rfl rfl (fun _ => rfl) (fun _ _ => rfl) (fun j => ?_) (fun _ => rfl) (fun _ => rfl) rfl
  show (if j = i then f else if s < j ∧ j ≤ s + 7 then a (j - s) else h.2.2.2.2.1 j) = (if s < j ∧ j ≤ s + 7 then a (j - s) else if j = i then f else h.2.2.2.2.1 j)
  by_cases e : j = i
  · rw [if_pos e, if_neg (by omega), if_pos e]
  · rw [if_neg e, if_neg e]
theorem sp_N : hN (SP h s q a t) = hN h := rfl
theorem hT3_SP (hs : s + 7 < hN h) : hT3 (SP h s q a t) n pg = SP (hT3 h n pg) s q a t := by
  unfold hT3 newHeatR
  rw [sp_N, alO_SP (show s < hN h by omega), alA_SP (show s + 7 < hN (alO h 1 2 (dfl 0)) by rw [oN_O]; omega), wF_SP (show ¬ hN h = s by omega), sp_N, oN_O, wA_SP (show s + 7 < hN h + 1 by omega), alA_SP (show s + 7 < hN (wA (wF (alA (alO h 1 2 (dfl 0)) 10 n) (hN h) 0 (Value.ref (hN h + 1))) (hN h + 1) pg) by rw [oN_W, oN_F, oN_A, oN_O]; omega), wF_SP (show ¬ hN h = s by omega)]
theorem mh_hT3 (h156 : 156 ≤ hN h) (hT : ∀ i, hN h ≤ i → T i = false) : newHeat (alO (MH h T U S A J G) 1 2 (dfl 0)) (hN h) 15 n = MH (hT3 h n (A 15)) T U S A J G := by
  have o1 : ∀ k, own (hN h + k) = false := fun k => own_big (by omega)
  have o0 : own (hN h) = false := own_big h156
  have t1 : ∀ k, T (hN h + k) = false := fun k => hT _ (by omega)
  have t0 : T (hN h) = false := hT _ (Nat.le_refl _)
  unfold hT3 newHeatR newHeat
  simp only [mh_alO, mh_alA, mh_wFn, mh_wAn, a_15, mh_N, oN_O, oN_A, oN_F, oN_W, Nat.add_assoc, Nat.reduceAdd, o1, o0, t1, t0]
theorem hT3_N : hN (hT3 h n pg) = hN h + 3 := rfl
theorem hT3_S : hS (hT3 h n pg) = hS h + (n + 13) := by
  show hS h + 2 + n + 11 = _
  omega
theorem hT3_X : hX (hT3 h n pg) = hX h := rfl
theorem hT3_fr : fr (hN h) h (hT3 h n pg) := by
  unfold hT3 newHeatR
  exact fr_tr (fr_tr (fr_tr (fr_tr (fr_tr (fr_alO (Nat.le_refl _)) (fr_alA (N := hN h) (by rw [oN_O]; omega)) (Nat.le_refl _)) (fr_wF (N := hN h) (Nat.le_refl _)) (Nat.le_refl _)) (fr_wA (N := hN h) (by rw [oN_O]; omega)) (Nat.le_refl _)) (fr_alA (N := hN h) (by rw [oN_W, oN_F, oN_A, oN_O]; omega)) (Nat.le_refl _)) (fr_wF (N := hN h) (Nat.le_refl _)) (Nat.le_refl _)
theorem hT3_HT (h156 : 156 ≤ hN h) (hT : ∀ i, hN h ≤ i → T i = false) (hn : n ≤ 700) : HTp (hT3 h n pg) (tAdd T (hN h + 2)) (hN h) n pg := by
  have e1 : (hN h = hN h + 1) = False := eq_false (by omega)
  have e2 : (hN h + 1 = hN h) = False := eq_false (by omega)
  have e3 : (hN h + 2 = hN h) = False := eq_false (by omega)
  have e4 : (hN h = hN h + 2) = False := eq_false (by omega)
  have e5 : (hN h + 1 = hN h + 2) = False := eq_false (by omega)
  have e6 : (hN h + 2 = hN h + 1) = False := eq_false (by omega)
  refine ⟨⟨own_big h156, own_big (by omega), own_big (by omega)⟩, ⟨?_, tAdd_at⟩, ?_, hn⟩
  · unfold tAdd
    rw [hT _ (by omega), decide_eq_false (by omega)]
    rfl
  · unfold hT3 newHeatR
    simp only [oN_O, oN_A, oN_F, oN_W, ok_O, ok_A, ok_F, ok_W, ol_O, ol_A, ol_F, ol_W, of_O, of_A, of_F, of_W, oa_O, oa_A, oa_F, oa_W, Nat.add_assoc, Nat.reduceAdd, e1, e2, e3, e4, e5, e6, if_true, if_false, true_and, and_true, and_self, false_and, and_false, show ((0 : Nat) = 1) = False from eq_false (by decide), show ((1 : Nat) = 0) = False from eq_false (by decide)]
end HT3
/-- what the class reads into, once a new heat lies there -/
def tC (c : HP) (n : Nat) (pg : Nat → Int32) : HP := (hT3 c.1 n pg, tAdd c.2.1 (hN c.1 + 2), upf c.2.2.1 (hN c.1 + 2) (fun _ => 0), c.2.2.2)
theorem j_heat {c c2 : HP} {g : Nat → Int32} {n : Nat} (hv : bV (cB c) g n) (hg : rB c2 = g) (hn : n ≤ 700) {s t p y sc : Nat} {q st D : Nat → Int32} {a : Nat → Nat → Int32} {nu ec ob ud : Int32} (hs : SBc c.1 c.2.1 s) (hG : c.2.2.2.2.2.2 13 = s) (hsN : s + 7 < hN c.1) (h156 : 156 ≤ s) (hT : ∀ i, hN c.1 ≤ i → c.2.1 i = false) (hp : p ≤ n) (hy : y ≤ n) (hy1 : 1 ≤ y) (hpy : nxT g n p = skT g n y) (hD : D 8 = 0) :
    (∃ L R nu' x', y < x' ∧ x' ≤ n ∧ GX 11 L R ∧ L.length ≤ 700 ∧ R.length ≤ 1200 ∧
      (∀ d K, EvM (d + 20) 39 [.ref 13] (cH (zC c s q a t) (rd g n p nu ec 0 sc) st) K = K (.inl (some (.int 1))) (cH (zC (tC c L.length (apL st 0 L)) s q a (hN c.1)) (rd g n (skT g n x') nu' ec 1 L.length) (apL st 0 L))) ∧
      (∀ d K, EvM (d + 19) 109 [.ref 140] (rH c2 (rm n y 0 ob ud 1) D) K = K (.inl none) (rH c2 (rm n x' 0 ob ud 1) (apR D 0 R)))) ∨
    (∃ r' m' st' D', eEq r' m' ob ud ∧
      (∀ d K, EvM (d + 20) 39 [.ref 13] (cH (zC c s q a t) (rd g n p nu ec 0 sc) st) K = K (.inl (some (.int 0))) (cH (zC c s q a t) r' st')) ∧
      (∀ d K, EvM (d + 19) 109 [.ref 140] (rH c2 (rm n y 0 ob ud 1) D) K = K (.inl none) (rH c2 m' D'))) := by
  have hsk := skT_le (g := g) hy
  have hx1 : (1 : Int32) = 0 ∨ (1 : Int32) = 1 := Or.inr rfl
  have hvz : bV (cB (zC c s q a t)) g n := hv
  have tk := fun {d K nu ec hs sc st} => c_tok (c := zC c s q a t) (d := d) (K := K) (nu := nu) (ec := ec) (hs := hs) (sc := sc) (st := st) hvz hn hp
  have w12 : ∀ {r st v}, wF (cH (zC c s q a t) r st) 13 12 (.int v) = cH (zC c s q a t) (upf r 12 v) st := c_w12
  have z0 : (0 : Int32) = nI 0 := nI_0.symm
  rcases j_all (c := zC c s q a t) (c2 := c2) (ec := ec) (hs := 1) (ob := ob) (ud := ud) (sn := 1) hvz hg hn (n + 1) 0 (by omega) y 0 0 st D nu hy (by omega) (Nat.zero_le _) (by omega) (by rw [hD]; exact nI_0.symm) with ⟨x', nu', L, R, a1, a2, a3, a4, a5, a6, a7⟩ | ⟨r', m', st', D', b1, b2, b3⟩
  · refine Or.inl ⟨L, R, nu', x', by omega, a2, a3, by omega, by omega, fun d K => ?_, fun d K => a7 (d + 12) K (by omega)⟩
    have k1 := fun K => a6 (d + 12) K (by omega)
    rw [nI_0, Nat.zero_add] at k1
    have k1 : ∀ K, EvM (d + 19) 40 [.ref 13, .int 0] (cH (zC c s q a t) (rd g n (skT g n y) nu ec 1 0) st) K = K (.inl (some (.int 1))) (cH (zC c s q a t) (rd g n (skT g n x') nu' ec 1 L.length) (apL st 0 L)) := k1
    have e12 : upf (rd g n p nu ec 1 sc) 12 0 = rd g n p nu ec 1 0 := rd_u12
    have hsx : hN (cH (zC c s q a t) (rd g n (skT g n x') nu' ec 1 L.length) (apL st 0 L)) = hN c.1 := rfl
    have hi := fun K => s_heatInit (d := d + 18) (t := hN c.1) (b := 15) (n := L.length) (L := 700) (h := alO (cH (zC c s q a t) (rd g n (skT g n x') nu' ec 1 L.length) (apL st 0 L)) 1 2 (dfl 0)) (K := K)
      (congrArg Prod.fst (if_pos rfl)) ((ok_O).trans ((if_neg (by rw [hsx]; omega)).trans k_15)) ((ol_O).trans ((if_neg (by rw [hsx]; omega)).trans l_15)) (Nat.le_refl _) (by omega) (Nat.lt_succ_self _) (by show 15 < hN c.1 + 1; omega)
    have h156c : 156 ≤ hN (SP c.1 s q a t) := by rw [sp_N]; omega
    have hm : newHeat (alO (cH (zC c s q a t) (rd g n (skT g n x') nu' ec 1 L.length) (apL st 0 L)) 1 2 (dfl 0)) (hN c.1) 15 L.length = cH (zC (tC c L.length (apL st 0 L)) s q a t) (rd g n (skT g n x') nu' ec 1 L.length) (apL st 0 L) := by
      refine (mh_hT3 (h := SP c.1 s q a t) h156c hT).trans ?_
      rw [hT3_SP hsN, upf_same, mh_T (x := hN c.1 + 2) (hT _ (by omega))]
      have e9 : hA (SP (hT3 c.1 L.length (apL st 0 L)) s q a t) (hN c.1 + 2) = fun _ => 0 := by
        refine (if_neg (by omega)).trans ?_
        show hA (hT3 c.1 L.length (apL st 0 L)) (hN c.1 + 2) = _
        unfold hT3 newHeatR
        simp only [oN_O, oN_A, oN_F, oN_W, oa_O, oa_A, oa_F, oa_W, Nat.add_assoc, Nat.reduceAdd, if_true]
      rw [e9]
      rfl
    have hsb : SBc (tC c L.length (apL st 0 L)).1 (tC c L.length (apL st 0 L)).2.1 s := SBc_fr (N := hN c.1) hT3_fr (frT_add (by omega)) hs hsN
    have g9 : hF (cH (zC c s q a t) (rd g n (skT g n x') nu' ec 1 L.length) (apL st 0 L)) 13 9 = .ref s := z_g hG
    have f11 : ∀ {r st}, hF (alO (cH (zC c s q a t) r st) 1 2 (dfl 0)) 13 11 = .ref 15 := fun {r st} => (of_O).trans ((if_neg (by show ¬ 13 = hN c.1; omega)).trans f_13_11)
    have f12 : hF (alO (cH (zC c s q a t) (rd g n (skT g n x') nu' ec 1 L.length) (apL st 0 L)) 1 2 (dfl 0)) 13 12 = .int (nI L.length) := (of_O).trans ((if_neg (by show ¬ 13 = hN c.1; omega)).trans c_f12)
    have k13 : ∀ {r st}, hk (alO (cH (zC c s q a t) r st) 1 2 (dfl 0)) 13 = 5 := fun {r st} => (ok_O).trans ((if_neg (by show ¬ 13 = hN c.1; omega)).trans c_k)
    have kN : hk (alO (cH (zC c s q a t) (rd g n (skT g n x') nu' ec 1 L.length) (apL st 0 L)) 1 2 (dfl 0)) (hN c.1) = 1 := congrArg Prod.fst (if_pos rfl)
    simp only [in39, i39_0, i39_1, i39_2, i39_5, i39_6, i39_7, i39_10, i39_11, i39_14, i39_15, i39_16, i39_19, i39_22, i39_23, i39_24, i39_25, i39_28, i39_31, i39_32, i39_33, i39_36, i39_37, i39_40, i39_43, i39_46, i39_47, nl_i, nl_r, nl_0, nl_j, nb0, nb1, nbI, orv_s, konN_v, konN_n, konN_e, true_and, and_true, and_self, if_true, if_false, ite_true, ite_false, isR_ref, true_or, or_true, bI_T, bI_F, bI_Fb, i1z, Bool.false_eq_true, c_k, c_w10, rd_u10, w12, e12, hx1, tk, hpy, k1, g9, hsx, k13, f11, f12, kN, hi, hm, z_k hsb, z_w10 hsb]
  · refine Or.inr ⟨r', m', st', D', b1, fun d K => ?_, fun d K => b3 (d + 12) K (by omega)⟩
    have k1 := fun K => b2 (d + 12) K (by omega)
    rw [nI_0] at k1
    have k1 : ∀ K, EvM (d + 19) 40 [.ref 13, .int 0] (cH (zC c s q a t) (rd g n (skT g n y) nu ec 1 0) st) K = K (.inl (some (.int 0))) (cH (zC c s q a t) r' st') := k1
    have e12 : upf (rd g n p nu ec 1 sc) 12 0 = rd g n p nu ec 1 0 := rd_u12
    simp only [i39_0, i39_1, i39_2, i39_5, i39_6, i39_7, i39_10, i39_11, i39_14, i39_15, i39_16, i39_19, i39_22, i39_23, in39, nl_i, nl_r, nl_0, nl_j, nb0, nb1, nbI, orv_s, konN_v, konN_n, konN_e, true_and, and_true, and_self, if_true, if_false, ite_true, ite_false, isR_ref, true_or, or_true, bI_T, bI_F, bI_Fb, i1z, Bool.false_eq_true, c_k, c_w10, rd_u10, w12, e12, hx1, tk, hpy, k1]
