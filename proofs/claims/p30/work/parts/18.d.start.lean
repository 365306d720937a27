/-! THE TOP: from the law's entry -/
theorem am_LV {o : OM} {b : Nat} (e2 : oS o = b) : LV o ((lg_sl ([Value.ref b] : List Value) ++ List.replicate (25 - (lg_sl ([Value.ref b] : List Value)).length) Slot.unset).toArray) (aent [scrV] 25) := by
  have et : ([scrV].map (trv o)) = [Value.ref b] := by
    show [tflo o 0] = _
    unfold tflo
    rw [if_pos rfl, e2]
  have hLV := LV.entry o [scrV] 25 (by decide)
  rw [et] at hLV
  exact hLV
theorem st_0 {h : AH} : astep 60 142 0 [some scrV, none, none, none, none, none, none, none, none, none, none, none, none, none, none, none, none, none, none, none, none, none, none, none, none] [] h = some (.inl (1, [some scrV, none, none, none, none, none, none, none, none, none, none, none, none, none, none, none, none, none, none, none, none, none, none, none, none], [.int 1], h)) := as_eq mm142 dL_law_0 (Or.inl rfl)
theorem st_1 {h : AH} : astep 60 142 1 [some scrV, none, none, none, none, none, none, none, none, none, none, none, none, none, none, none, none, none, none, none, none, none, none, none, none] [.int 1] h = some (.inl (2, [some scrV, some (.int 1), none, none, none, none, none, none, none, none, none, none, none, none, none, none, none, none, none, none, none, none, none, none, none], [], h)) := by
  have hn : ((1 : Fin 4) : Nat) < ([some scrV, none, none, none, none, none, none, none, none, none, none, none, none, none, none, none, none, none, none, none, none, none, none, none, none] : aLS).length := by decide
  refine (as_eq mm142 dL_law_1 (Or.inl rfl)).trans ?_
  exact rfl
theorem st_2 {h : AH} : astep 60 142 2 [some scrV, some (.int 1), none, none, none, none, none, none, none, none, none, none, none, none, none, none, none, none, none, none, none, none, none, none, none] [] h = some (.inl (3, [some scrV, some (.int 1), none, none, none, none, none, none, none, none, none, none, none, none, none, none, none, none, none, none, none, none, none, none, none], [.int (nI 0)], h)) := as_eq mm142 dL_law_2 (Or.inl rfl)
theorem st_3 {h : AH} : astep 60 142 3 [some scrV, some (.int 1), none, none, none, none, none, none, none, none, none, none, none, none, none, none, none, none, none, none, none, none, none, none, none] [.int (nI 0)] h = some (.inl (4, [some scrV, some (.int 1), some (.int (nI 0)), none, none, none, none, none, none, none, none, none, none, none, none, none, none, none, none, none, none, none, none, none, none], [], h)) := by
  have hn : ((2 : Fin 4) : Nat) < ([some scrV, some (.int 1), none, none, none, none, none, none, none, none, none, none, none, none, none, none, none, none, none, none, none, none, none, none, none] : aLS).length := by decide
  refine (as_eq mm142 dL_law_3 (Or.inl rfl)).trans ?_
  exact rfl
set_option maxRecDepth 100000 in
theorem whole_start {p : Program} {e : Env} {s : State} {m : MethodId} {below : List Frame} {meth : Method} {c : Code} (l : Launch) (hflags : l.flags = flags0) {b L : Nat} {xs : Nat → Int32} (hL : L ≤ 260) (C0 : lw_At p s m meth c b L xs) : W p l e room_1 s m #[Value.ref b] below meth c s.heap [] 0 0 (lw_Z below #[Value.ref b] s) (entryFrame m ([Value.ref b] : List Value).toArray 25) := by
  obtain ⟨hx, hb, hr, hml, hown, hts, hX, hbl, hlocks, htab, hgv⟩ := id C0
  obtain ⟨o, e1, e0, e2, e3, hW⟩ := wf_start hts hX hbl hgv
  have F := am_F (o := o_at o 0) (e := e) (below := below) l hflags e1 (hW.at 0) (nE := 0) (sE := 0) (by omega) (by omega) C0
  have k4 := top_loop (e := e) (below := below) l hflags e1 hW C0 e3 hL 2 0 0 0 rfl (Nat.zero_le _) (Nat.zero_le _)
  have k3 := wg_step mm142 st_3 F (Nat.le_refl _) (Nat.le_refl _) k4
  have k2 := wg_step mm142 st_2 F (Nat.le_refl _) (Nat.le_refl _) k3
  have k1 := wg_step mm142 st_1 F (Nat.le_refl _) (Nat.le_refl _) k2
  have k0 := wg_step mm142 st_0 F (Nat.le_refl _) (Nat.le_refl _) k1
  have hs0 : s.heap.size = oB (o_at o 0) + 0 := by
    show s.heap.size = oL o + 0 + 0
    omega
  have hS : va_S (fun q => oL (o_at o 0) ≤ q) s.heap s.heap [] := by
    show va_S (fun q => oL o ≤ q) s.heap s.heap []
    rw [e1]
    exact va_S.rf
  have kk := k0 _ s.heap [] (am_LV (o := o_at o 0) (b := b) e2) rfl ⟨hs0, fun _ _ => rfl, fun i hi => absurd hi (Nat.not_lt_zero i), e3.symm⟩ hS (Nat.le_refl _) (Nat.le_refl _)
  rw [lg_entry_eq]
  exact kk
