/-! THE TOP: the law's loop over the machine, each number over a heap of its own -/
def o_at (o : OM) (k : Nat) : OM := (o.1, o.2.1, o.2.2.1, o.2.2.2.1, o.2.2.2.2.1, o.2.2.2.2.2.1, o.2.2.2.2.2.2.1, o.2.2.2.2.2.2.2.1, k, o.2.2.2.2.2.2.2.2.2)
theorem WF.at {o : OM} {s : State} {H : Heap} (h : WF o s H) (k : Nat) : WF (o_at o k) s H := h
theorem LV.forget {o o' : OM} {lsA : Array Slot} {ls ls' : aLS} (h : LV o lsA ls) (hl : ls'.length = ls.length) (hs : ∀ (j : Nat) (w : Value), ls'[j]? = some (some w) → ls[j]? = some (some w) ∧ trv o' w = trv o w) : LV o' lsA ls' := by
  refine ⟨h.1.trans hl.symm, h.2.1, fun q hq => ?_⟩
  obtain ⟨w, h1, h2⟩ := lvp_mem.mp hq
  obtain ⟨h3, h4⟩ := hs _ _ h1
  rw [h2, h4]
  exact h.get h3
section TOPS
variable {o : OM} {X : CX} {E : MI} {d mi n0 s0 nE sE pc pc' k : Nat} {Q : State → Prop} {h h' : AH} {ls ls' : aLS} {st st' : List Value} {v : Int32} {m3 m4 m5 m6 m7 m8 m9 m10 m11 m12 m13 m14 m15 m16 m17 m18 m19 m20 m21 m22 m23 m24 : Option Value}
/-- the heap so far is forgotten: the next number goes on over an empty one -/
theorem WG.rebase (hW : WG (o_at o (k + hN h)) X 25 n0 s0 Q (h0s (hS h, hX h)) pc [some scrV, some (.int 1), some (.int v), none, none, none, none, none, none, none, none, none, none, none, none, none, none, none, none, none, none, none, none, none, none] []) : WG (o_at o k) X 25 n0 s0 Q h pc [some scrV, some (.int 1), some (.int v), m3, m4, m5, m6, m7, m8, m9, m10, m11, m12, m13, m14, m15, m16, m17, m18, m19, m20, m21, m22, m23, m24] [] := by
  intro lsA H locs a1 a2 a3 a4 a5 a6
  have eB : oB (o_at o (k + hN h)) = oB (o_at o k) + hN h := by
    show oL o + (k + hN h) = oL o + k + hN h
    omega
  refine hW lsA H locs (a1.forget rfl (fun j w hw => ?_)) rfl ⟨?_, fun _ _ => rfl, fun i hi => absurd hi (Nat.not_lt_zero i), a3.2.2.2⟩ a4 a5 a6
  · rcases j with _ | _ | _ | j
    · cases hw; exact ⟨rfl, rfl⟩
    · cases hw; exact ⟨rfl, rfl⟩
    · cases hw; exact ⟨rfl, rfl⟩
    · exfalso
      have hm : some w ∈ ([none, none, none, none, none, none, none, none, none, none, none, none, none, none, none, none, none, none, none, none, none, none] : aLS) := List.mem_of_getElem? (i := j) hw
      simp at hm
  · rw [eB]
    exact a3.1
theorem wg_step (hE : mtab[mi]? = some E) (ha : astep d mi pc ls st h = some (.inl (pc', ls', st', h'))) (F : FR o X E d n0 s0 nE sE) (b1 : oO o + hN h' ≤ nE) (b2 : hS h' ≤ sE) (kk : WG o X E.2.2.1 n0 s0 Q h' pc' ls' st') : WG o X E.2.2.1 n0 s0 Q h pc ls st := by
  unfold astep at ha
  rw [hE] at ha
  dsimp only at ha
  cases hd : decode E.2.1 pc with
  | error q => rw [hd] at ha; cases ha
  | ok il =>
    obtain ⟨i, len⟩ := il
    rw [hd] at ha
    dsimp only at ha
    by_cases hl : len = ilen i ∨ ilen i = 100
    · rw [if_pos hl] at ha
      exact aex_next F hd hl ha b1 b2 kk
    · rw [if_neg hl] at ha
      cases ha
theorem ev_exit {x : Nat × (Nat × (Nat → Int32))} {L iv : Nat} {xs : Nat → Int32} (hx : x.2 = (L, xs)) (hL : L < 2 ^ 30) (hi : iv ≤ 2) (hex : ¬ (iv < L ∧ iv < 2)) : Ev 60 142 4 [some scrV, some (.int 1), some (.int (nI iv)), none, none, none, none, none, none, none, none, none, none, none, none, none, none, none, none, none, none, none, none, none, none] [] (h0s x) (fun oc y => oc = .inl (some (.int 1)) ∧ y = h0s x) := by
  have p1 : (hX (h0s x)).1 = L := congrArg Prod.fst hx
  have iR : (isR scrV = true) = True := eq_true rfl
  rw [i142_4]
  by_cases h1 : iv < L
  · have c1 : (nI L ≤ nI iv) = False := eq_false (fun z => by
      have := (nI_leI (a := L) (b := iv) (by omega) (by omega)).mp z
      omega)
    have c2 : ((2 : Int32) ≤ nI iv) = True := by rw [show iv = 2 by omega]; exact eq_true (by decide)
    simp only [i142_5, i142_6, i142_7, i142_10, i142_11, i142_12, i142_15, i142_16, i142_1129, i142_1130, nl_i, nl_r, nl_0, nl_j, nb0, nb1, nbI, orv_s, konN_v, konN_n, konN_e, true_and, and_true, and_self, if_true, if_false, ite_true, ite_false, isR_ref, true_or, or_true, isR_null, rg10, rg11, rg12, rg13, rg14, rg15, rg16, rh13, rh14, rh15, rh16, bI_T, bI_F, bI_Fb, i1z, Bool.false_eq_true, iR, p1, c1, c2, i1n0]
  · have c1 : (nI L ≤ nI iv) = True := eq_true ((nI_leI (a := L) (b := iv) (by omega) (by omega)).mpr (by omega))
    simp only [i142_5, i142_6, i142_7, i142_10, i142_11, i142_12, i142_15, i142_16, i142_1129, i142_1130, nl_i, nl_r, nl_0, nl_j, nb0, nb1, nbI, orv_s, konN_v, konN_n, konN_e, true_and, and_true, and_self, if_true, if_false, ite_true, ite_false, isR_ref, true_or, or_true, isR_null, rg10, rg11, rg12, rg13, rg14, rg15, rg16, rh13, rh14, rh15, rh16, bI_T, bI_F, bI_Fb, i1z, Bool.false_eq_true, iR, p1, c1, i1n0]
end TOPS
theorem room_a : 60 ≤ room_1.frames := Nat.le_of_ble_eq_true rfl
theorem room_b : 60 * 60 + 60 ≤ room_1.locals := Nat.le_of_ble_eq_true rfl
theorem room_c : room_1.cells = 690366 := rfl
theorem room_d : room_1.slots = 7030600 := rfl
theorem law_ni : yL_law.name ≠ "<init>" := by decide
section TOPT
variable {p : Program} {e : Env} {s : State} {m : MethodId} {below : List Frame} {meth : Method} {c : Code} {b L : Nat} {xs : Nat → Int32} {o : OM}
theorem am_F (l : Launch) (hflags : l.flags = flags0) (e1 : oL o = s.heap.size) (hW : WF o s s.heap) {nE sE : Nat} (b1 : nE ≤ 690366) (b2 : sE ≤ 7030600) (C0 : lw_At p s m meth c b L xs) : FR o (l, p, e, room_1, s, m, #[Value.ref b], below, meth, c) em142 60 0 0 nE sE := by
  obtain ⟨hx, hb, hr, hml, hown, hts, hX, hbl, hlocks, htab, hgv⟩ := C0
  refine ⟨hx, hb, hml, hr, hown, htab, fun hn => absurd hn law_ni, hlocks, no_tr hflags, fun w hw => hts w (List.mem_filter.mp hw).1, hW, Nat.le_of_eq e1, room_a, room_b, ?_, ?_⟩
  · rw [Nat.zero_add]
    exact Nat.le_trans b1 (Nat.le_of_eq room_c.symm)
  · rw [Nat.zero_add]
    exact Nat.le_trans b2 (Nat.le_of_eq room_d.symm)
theorem am_exit (l : Launch) (hflags : l.flags = flags0) (e1 : oL o = s.heap.size) (hW : WF o s s.heap) (C0 : lw_At p s m meth c b L xs) (hL : L ≤ 260) {iv k sl : Nat} (hi : iv ≤ 2) (hex : ¬ (iv < L ∧ iv < 2)) (hk1 : k ≤ 300000) (hsl : sl ≤ 400000) : WG (o_at o k) (l, p, e, room_1, s, m, #[Value.ref b], below, meth, c) 25 0 0 (lw_Z below #[Value.ref b] s) (h0s (sl, (L, xs))) 4 [some scrV, some (.int 1), some (.int (nI iv)), none, none, none, none, none, none, none, none, none, none, none, none, none, none, none, none, none, none, none, none, none, none] [] := by
  obtain ⟨n, oc, h', hr, ho, hh⟩ := ev_exit (x := (sl, (L, xs))) rfl (by omega) hi hex
  subst ho
  subst hh
  have F := am_F (o := o_at o k) (e := e) (below := below) l hflags e1 (hW.at k) (nE := k + 0) (sE := sl) (by omega) (by omega) C0
  have K := arun_snd (o_at o k) n 60 142 4 _ _ _ _ _ hr em142 mm142 _ 0 0 F
  intro lsA H locs a1 a2 a3 a4 a5 a6
  refine W_mono (K lsA H locs a1 a2 a3 a4 a5 a6) fun t ht => ?_
  obtain ⟨oc, t1, t2, t3⟩ := ht
  rcases t3 with ⟨⟨⟨v, hv1, hv2⟩, -, -⟩, Lc, hfe, hLc⟩ | ⟨q, -, En, ce, Lc, ⟨⟨e9, he9, -⟩, -⟩, -⟩
  · cases hv1
    subst hv2
    obtain ⟨g1, g2, g3⟩ := hfe
    refine ⟨_, t1, t2, rfl, ⟨_, rfl⟩, g2, g3.weaken (fun y hy hlt => ?_) (by show k + 0 - 0 ≤ _; omega) (by show sl - 0 ≤ _; omega)⟩
    have h9 : oL o ≤ y.base := hLc y hy
    rw [e1] at h9
    exact absurd hlt (Nat.not_lt.mpr h9)
  · cases he9
theorem top_loop (l : Launch) (hflags : l.flags = flags0) (e1 : oL o = s.heap.size) (hW : WF o s s.heap) (C0 : lw_At p s m meth c b L xs) (C0X : oX o = (L, xs)) (hL : L ≤ 260) : ∀ (j iv k sl : Nat), iv + j = 2 → k ≤ 150000 * iv → sl ≤ 200000 * iv → WG (o_at o k) (l, p, e, room_1, s, m, #[Value.ref b], below, meth, c) 25 0 0 (lw_Z below #[Value.ref b] s) (h0s (sl, (L, xs))) 4 [some scrV, some (.int 1), some (.int (nI iv)), none, none, none, none, none, none, none, none, none, none, none, none, none, none, none, none, none, none, none, none, none, none] []
  | 0, iv, k, sl, hj, hk1, hsl => am_exit l hflags e1 hW C0 hL (by omega) (by omega) (by omega) (by omega)
  | j + 1, iv, k, sl, hj, hk1, hsl => by
    by_cases h1 : iv < L
    · obtain ⟨n, ls', h', hr, ⟨m3, m4, m5, m6, m7, m8, m9, m10, m11, m12, m13, m14, m15, m16, m17, m18, m19, m20, m21, m22, m23, m24, hl⟩, b1, b2⟩ := law_iter (x := (sl, (L, xs))) (L := L) (xs := xs) (iv := iv) (l3 := none) (l4 := none) (l5 := none) (l6 := none) (l7 := none) (l8 := none) (l9 := none) (l10 := none) (l11 := none) (l12 := none) (l13 := none) (l14 := none) (l15 := none) (l16 := none) (l17 := none) (l18 := none) (l19 := none) (l20 := none) (l21 := none) (l22 := none) (l23 := none) (l24 := none) rfl h1 (by omega) (by omega) (d := 30)
      have b1 : hN h' ≤ 150000 := b1
      have b2 : hS h' ≤ sl + 200000 := b2
      have F := am_F (o := o_at o k) (e := e) (below := below) l hflags e1 (hW.at k) (nE := k + hN h') (sE := hS h') (by omega) (by omega) C0
      subst hl
      refine lrun_snd (o_at o k) n 60 142 4 _ _ _ _ _ hr em142 mm142 _ 0 0 _ F ?_
      have ha : astep 60 142 1126 [some scrV, some (.int 1), some (.int (nI (iv + 1))), m3, m4, m5, m6, m7, m8, m9, m10, m11, m12, m13, m14, m15, m16, m17, m18, m19, m20, m21, m22, m23, m24] [] h' = some (.inl (4, [some scrV, some (.int 1), some (.int (nI (iv + 1))), m3, m4, m5, m6, m7, m8, m9, m10, m11, m12, m13, m14, m15, m16, m17, m18, m19, m20, m21, m22, m23, m24], [], h')) := as_eq mm142 dL_law_1126 (Or.inl rfl)
      refine wg_step mm142 ha F (Nat.le_refl _) (Nat.le_refl _) (WG.rebase ?_)
      intro lsA H locs a1 a2 a3 a4 a5 a6
      have ex : hX h' = (L, xs) := by
        have := a3.2.2.2
        exact this.trans C0X
      rw [ex] at a3 ⊢
      exact top_loop l hflags e1 hW C0 C0X hL j (iv + 1) (k + hN h') (hS h') (by omega) (by omega) (by omega) lsA H locs a1 a2 a3 a4 a5 a6
    · exact am_exit l hflags e1 hW C0 hL (by omega) (by omega) (by omega) (by omega)
end TOPT
