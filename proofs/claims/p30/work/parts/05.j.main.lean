/-! SOUNDNESS, part 9: THE WHOLE RUN -/
theorem exT_ne0 : exT.all (fun e => decide (e.1.2 ≠ 0)) = true := by decide +kernel
theorem arun_mono : ∀ (n d mi pc : Nat) (ls : aLS) (st : List Value) (h : AH) (oc : AO) (h' : AH), arun n d mi pc ls st h = some (oc, h') → hN h ≤ hN h' ∧ hS h ≤ hS h'
  | 0, _, _, _, _, _, _, _, _, hr => by simp [arun] at hr
  | n + 1, d, mi, pc, ls, st, h, oc, h', hr => by
    have ih := arun_mono n
    rw [arun] at hr
    cases ha : astep d mi pc ls st h with
    | none => rw [ha] at hr; cases hr
    | some r =>
      rw [ha] at hr
      rcases r with ⟨pc', ls', st', h1⟩ | v | ⟨t, args, rest⟩ | e
      · have h2 := ih _ _ _ _ _ _ _ _ hr
        unfold astep at ha
        split at ha
        · cases ha
        · split at ha
          · cases ha
          · split at ha
            · have h3 := aex_mono ha
              omega
            · cases ha
      · cases hr
        exact ⟨Nat.le_refl _, Nat.le_refl _⟩
      · cases d with
        | zero => cases hr
        | succ d1 =>
          dsimp only at hr
          split at hr
          · cases hr
          · split at hr
            · split at hr
              · cases hr
              · rename_i v h1 hc
                have a1 := ih _ _ _ _ _ _ _ _ hc
                have a2 := ih _ _ _ _ _ _ _ _ hr
                omega
              · rename_i e h1 hc
                have a1 := ih _ _ _ _ _ _ _ _ hc
                split at hr
                · cases hr
                · cases hr
                  exact a1
                · have a2 := ih _ _ _ _ _ _ _ _ hr
                  omega
            · cases hr
      · cases hr
        exact ⟨Nat.le_succ _, Nat.le_add_right _ _⟩
section P9
variable {o : OM} {X : CX} {E : MI} {d n0 s0 nE sE L : Nat} {Q : State → Prop} {h : AH} {pc : Nat} {ls : aLS} {st : List Value}
theorem hsel_none {E : MI} {pc e : Nat} : ∀ {hh : List (Nat × Nat × Nat × Nat)}, hsel E pc e hh = some none → ∀ x ∈ tableOf hh, covers x pc = false
  | [], _, x, hx => by cases hx
  | q :: t, hs, x, hx => by
    rw [hsel] at hs
    by_cases hc : q.1 ≤ pc ∧ pc < q.2.1
    · rw [if_pos hc] at hs
      split at hs
      · cases hs
      · split at hs
        · split at hs
          · split at hs <;> cases hs
          · split at hs <;> cases hs
          · cases hs
        · split at hs <;> cases hs
    · rw [if_neg hc] at hs
      rcases List.mem_cons.mp hx with rfl | hx
      · show (decide (q.1 ≤ pc) && decide (pc < q.2.1)) = false
        rw [← Bool.decide_and]
        exact decide_eq_false hc
      · exact hsel_none hs x hx
theorem hsel_some (F : FR o X E d n0 s0 nE sE) {pc e hp k len : Nat} (he : e < 3) : ∀ {hh : List (Nat × Nat × Nat × Nat)}, hsel E pc e hh = some (some (hp, k, len)) → ∃ (pre : List ExceptionTableEntry) (x : ExceptionTableEntry) (suf : List ExceptionTableEntry), tableOf hh = pre ++ x :: suf ∧
    (∀ z ∈ pre, covers z pc = false ∨ (z.catchType ≠ 0 ∧ ∃ nm : String, (Cond.classLink (cR E.2.2.2.2.1) z.catchType nm).before (xa X) (xs X) = true ∧ va_Nc (exN e) nm (xs X))) ∧ covers x pc = true ∧ x.catchType ≠ 0 ∧
    (Cond.classLink (cR E.2.2.2.2.1) x.catchType (exN e)).before (xa X) (xs X) = true ∧ x.handlerPc = hp ∧ ((∃ f : Fin 4, decode E.2.1 hp = .ok (.astore_n f, 1) ∧ (f : Nat) = k ∧ len = 1) ∨ (decode E.2.1 hp = .ok (.astore k, 2) ∧ len = 2)) ∧ k < E.2.2.1
  | [], hs => by cases hs
  | q :: t, hs => by
    rw [hsel] at hs
    by_cases hc : q.1 ≤ pc ∧ pc < q.2.1
    · rw [if_pos hc] at hs
      have hcov : covers ⟨q.1, q.2.1, q.2.2.1, q.2.2.2⟩ pc = true := by
        show (decide (q.1 ≤ pc) && decide (pc < q.2.1)) = true
        rw [← Bool.decide_and]
        exact decide_eq_true hc
      cases hl : look (E.2.2.2.2.1, q.2.2.2) exT with
      | none => rw [hl] at hs; cases hs
      | some r =>
        obtain ⟨wi, e2⟩ := r
        rw [hl] at hs
        dsimp only at hs
        have ok1 := all_of exT_ok (look_mem hl)
        simp only [decide_eq_true_eq] at ok1
        have ok2 := all_of exT_ne0 (look_mem hl)
        simp only [decide_eq_true_eq] at ok2
        have ok3 := all_of exT_lt (look_mem hl)
        simp only [decide_eq_true_eq] at ok3
        by_cases hee : e2 = e
        · subst hee
          rw [if_pos rfl] at hs
          refine ⟨[], ⟨q.1, q.2.1, q.2.2.1, q.2.2.2⟩, tableOf t, rfl, fun z hz => (by cases hz), hcov, ok2, F.w ok1 rfl, ?_⟩
          split at hs
          · rename_i f hd
            split at hs
            · cases hs
              exact ⟨rfl, Or.inl ⟨f, hd, rfl, rfl⟩, by assumption⟩
            · cases hs
          · rename_i f hd
            split at hs
            · cases hs
              exact ⟨rfl, Or.inr ⟨hd, rfl⟩, by assumption⟩
            · cases hs
          · cases hs
        · rw [if_neg hee] at hs
          split at hs
          · rename_i r hr
            cases hs
            obtain ⟨pre, x, suf, b1, b2, b3⟩ := hsel_some F he hr
            refine ⟨⟨q.1, q.2.1, q.2.2.1, q.2.2.2⟩ :: pre, x, suf, by show _ :: tableOf t = _; rw [b1]; rfl, fun z hz => ?_, b3⟩
            rcases List.mem_cons.mp hz with rfl | hz
            · exact Or.inr ⟨ok2, exN e2, F.w ok1 rfl, F.wf.2.2.2.2.2.2.2.2.2.2.2.2.2.2.2.1 e e2 he ok3 (fun z => hee z.symm)⟩
            · exact b2 z hz
          · cases hs
    · rw [if_neg hc] at hs
      obtain ⟨pre, x, suf, b1, b2, b3⟩ := hsel_some F he hs
      refine ⟨⟨q.1, q.2.1, q.2.2.1, q.2.2.2⟩ :: pre, x, suf, by show _ :: tableOf t = _; rw [b1]; rfl, fun z hz => ?_, b3⟩
      rcases List.mem_cons.mp hz with rfl | hz
      · refine Or.inl ?_
        show (decide (q.1 ≤ pc) && decide (pc < q.2.1)) = false
        rw [← Bool.decide_and]
        exact decide_eq_false hc
      · exact b2 z hz
/-- not caught: the frame ends -/
theorem wx_out (F : FR o X E d n0 s0 nE sE) {e : Nat} {rest : List Value} (hh : hsel E pc e E.2.2.2.2.2 = some none) : WX o X L n0 s0 (QF o X (.inr e) h n0 s0) h pc ls rest e := by
  intro lsA H locs q ce q1 q2 q3 q4 q5 q6 q7 q8 q9
  exact vx_out (fun x hx => hsel_none hh x (by rw [← F.tb]; exact hx)) F.lk q7 q8 q9 (fun t ht _ => ⟨⟨e, rfl, rfl⟩, by rw [ht]; exact q3, q4.F ht⟩) q4.2.2 (Nat.le_refl _) (Nat.le_refl _)
/-- caught -/
theorem wx_catch (F : FR o X E d n0 s0 nE sE) (hLn : L = E.2.2.1) {e hp k len : Nat} {rest : List Value} (he : e < 3) (hh : hsel E pc e E.2.2.2.2.2 = some (some (hp, k, len))) (kk : WG o X L n0 s0 Q h (hp + len) (lst1 ls k none) []) : WX o X L n0 s0 Q h pc ls rest e := by
  intro lsA H locs q ce q1 q2 q3 q4 q5 q6 q7 q8 q9
  obtain ⟨pre, x, suf, b1, b2, b3, b4, b5, rfl, b7, b8⟩ := hsel_some F he hh
  refine vx_catch F.own pre x suf (by rw [F.tb]; exact b1) b2 b3 b4 b5 (F.any (exN_ok e he).2.2.2 rfl) q7 q8 q9 ?_
  have hk : k < ls.length := by rw [q2, hLn]; exact b8
  rcases b7 with ⟨f, hd, rfl, rfl⟩ | ⟨hd, rfl⟩
  · exact lv_astore_n F.1 F.2.1 hd rfl q1 hk rfl (fun ls' a' => kk ls' H locs (LV.st0 a') (by rw [lst1_len]; exact q2) q3 q4 q5 q6)
  · exact lv_astore F.1 F.2.1 hd q1 hk rfl (fun ls' a' => kk ls' H locs (LV.st0 a') (by rw [lst1_len]; exact q2) q3 q4 q5 q6)
theorem athr_lt {e i : Nat} (hs : athr E d pc i st = some (.inr (.inr (.inr e)))) : e < 3 := by
  unfold athr at hs
  split at hs
  · cases hs
  · rename_i wi e1 hl1
    have ok2 := all_of exT_lt (look_mem hl1)
    simp only [decide_eq_true_eq] at ok2
    split at hs
    · split at hs
      · split at hs
        · cases hs
          exact ok2
        · cases hs
      · cases hs
    · cases hs
theorem arun_e : ∀ (n d mi pc : Nat) (ls : aLS) (st : List Value) (h : AH) (e : Nat) (h' : AH), arun n d mi pc ls st h = some (.inr e, h') → e < 3
  | 0, _, _, _, _, _, _, _, _, hr => by simp [arun] at hr
  | n + 1, d, mi, pc, ls, st, h, e, h', hr => by
    have ih := arun_e n
    rw [arun] at hr
    cases ha : astep d mi pc ls st h with
    | none => rw [ha] at hr; cases hr
    | some r =>
      rw [ha] at hr
      rcases r with ⟨pc', ls', st', h1⟩ | v | ⟨t, args, rest⟩ | e1
      · exact ih _ _ _ _ _ _ _ _ hr
      · cases hr
      · cases d with
        | zero => cases hr
        | succ d1 =>
          dsimp only at hr
          split at hr
          · cases hr
          · split at hr
            · split at hr
              · cases hr
              · exact ih _ _ _ _ _ _ _ _ hr
              · rename_i e2 h1 hc
                split at hr
                · cases hr
                · cases hr
                  exact ih _ _ _ _ _ _ _ _ hc
                · exact ih _ _ _ _ _ _ _ _ hr
            · cases hr
      · cases hr
        unfold astep at ha
        split at ha
        · cases ha
        · split at ha
          · cases ha
          · split at ha
            · obtain ⟨m, -, hm⟩ := aex_thr ha
              exact athr_lt hm
            · cases ha
end P9
theorem arun_snd (o : OM) : ∀ (n d mi pc : Nat) (ls : aLS) (st : List Value) (h : AH) (oc : AO) (h' : AH), arun n d mi pc ls st h = some (oc, h') → ∀ (E : MI), mtab[mi]? = some E → ∀ (X : CX) (n0 s0 : Nat), FR o X E d n0 s0 (oO o + hN h') (hS h') → WG o X E.2.2.1 n0 s0 (QF o X oc h' n0 s0) h pc ls st
  | 0, _, _, _, _, _, _, _, _, hr => by simp [arun] at hr
  | n + 1, d, mi, pc, ls, st, h, oc, h', hr => by
    intro E hE X n0 s0 F
    have ih := arun_snd o n
    rw [arun] at hr
    cases ha : astep d mi pc ls st h with
    | none => rw [ha] at hr; cases hr
    | some r =>
      rw [ha] at hr
      unfold astep at ha
      rw [hE] at ha
      dsimp only at ha
      cases hd : decode E.2.1 pc with
      | error q => rw [hd] at ha; cases ha
      | ok il =>
        obtain ⟨i, len⟩ := il
        rw [hd] at ha
        dsimp only at ha
        by_cases hl : len = ilen i ∨ ilen i = 100
        · rw [if_pos hl] at ha
          rcases r with ⟨pc', ls', st', h1⟩ | v | ⟨t, args, rest⟩ | e
          · have m := arun_mono _ _ _ _ _ _ _ _ _ hr
            exact aex_next F hd hl ha (Nat.add_le_add_left m.1 _) m.2 (ih _ _ _ _ _ _ _ _ hr E hE X n0 s0 F)
          · cases hr
            rcases aex_ret ha with ⟨x, ty, rfl, rfl, rfl, h4, h5⟩ | ⟨x, rfl, rfl, rfl, h4⟩ | ⟨rfl, rfl, rfl, h4⟩ | ⟨x, ty, rfl, rfl, rfl, h4, h5, h6⟩
            · exact sd_iret F (by rcases hl with hl | hl; (rw [hl] at hd; exact hd); cases hl) h4 h5
            · exact sd_lret F (by rcases hl with hl | hl; (rw [hl] at hd; exact hd); cases hl) h4
            · exact sd_vret F (by rcases hl with hl | hl; (rw [hl] at hd; exact hd); cases hl) h4
            · exact sd_aret F (by rcases hl with hl | hl; (rw [hl] at hd; exact hd); cases hl) h4 h6 h5
          · rcases aex_call ha with ac | ac
            · obtain ⟨idx, kd, wi, host, Et, c1, c2, c3, c4, c5, rfl, c7⟩ := ac
              have hd3 : decode E.2.1 pc = .ok (i, 3) := by
                rcases hl with hl | hl
                · rw [← c4, ← hl]; exact hd
                · rw [c4] at hl; cases hl
              cases d with
              | zero => cases hr
              | succ d1 =>
                dsimp only at hr
                rw [c3] at hr
                dsimp only at hr
                have ht : tgtOK kd t = true := by
                  have ok := all_of mthT_tgt (look_mem c1)
                  simp only [Bool.or_eq_true, decide_eq_true_eq] at ok
                  exact ok.resolve_left (by omega)
                by_cases hal : (aenl args).length ≤ Et.2.2.1
                · rw [if_pos hal] at hr
                  cases hc : arun n d1 t 0 (aent args Et.2.2.1) [] h with
                  | none => rw [hc] at hr; cases hr
                  | some r =>
                    obtain ⟨oc1, h1⟩ := r
                    rw [hc] at hr
                    have m1 := arun_mono _ _ _ _ _ _ _ _ _ hc
                    have hM : CM o (xl X) Et d1 h args oc1 h1 := cm_of c3 (tgt_facts c3 ht).1 F.tr m1.1 m1.2 hal (fun X' hX' F' => ih _ _ _ _ _ _ _ _ hc Et c3 X' _ _ F')
                    cases oc1 with
                    | inl v =>
                      have m2 := arun_mono _ _ _ _ _ _ _ _ _ hr
                      refine sd_call F rfl c1 c2 c3 hd3 c5 c7 m1.1 m1.2 (by have := m2.1; omega) m2.2 hM (fun v' hv => ?_) (fun e he => by cases he)
                      cases hv
                      exact ih _ _ _ _ _ _ _ _ hr E hE X n0 s0 F
                    | inr e =>
                      dsimp only at hr
                      have he3 := arun_e _ _ _ _ _ _ _ _ _ hc
                      have hhnd : hnd mi pc e = hsel E pc e E.2.2.2.2.2 := by unfold hnd; rw [hE]
                      rw [hhnd] at hr
                      cases hs : hsel E pc e E.2.2.2.2.2 with
                      | none => rw [hs] at hr; cases hr
                      | some r2 =>
                        rw [hs] at hr
                        cases r2 with
                        | none =>
                          cases hr
                          refine sd_call F rfl c1 c2 c3 hd3 c5 c7 m1.1 m1.2 (Nat.le_refl _) (Nat.le_refl _) hM (fun v' hv => by cases hv) (fun e' he => ?_)
                          cases he
                          exact wx_out F hs
                        | some q =>
                          obtain ⟨hp, k, ln⟩ := q
                          have m2 := arun_mono _ _ _ _ _ _ _ _ _ hr
                          refine sd_call F rfl c1 c2 c3 hd3 c5 c7 m1.1 m1.2 (by have := m2.1; omega) m2.2 hM (fun v' hv => by cases hv) (fun e' he => ?_)
                          cases he
                          exact wx_catch F rfl he3 hs (ih _ _ _ _ _ _ _ _ hr E hE X n0 s0 F)
                · rw [if_neg hal] at hr
                  cases hr
            · obtain ⟨idx, kd, wi, host, Et, c1, c3, c4, c5, rfl, c7, c8⟩ := ac
              have hd3 : decode E.2.1 pc = .ok (i, 3) := by
                rcases hl with hl | hl
                · rw [← c4, ← hl]; exact hd
                · rw [c4] at hl; cases hl
              cases d with
              | zero => cases hr
              | succ d1 =>
                dsimp only at hr
                rw [c3] at hr
                dsimp only at hr
                obtain ⟨-, f1, -⟩ := sup_facts c1 (c7.imp (fun z => z.1) (fun z => z.1)) c3
                by_cases hal : (aenl args).length ≤ Et.2.2.1
                · rw [if_pos hal] at hr
                  cases hc : arun n d1 t 0 (aent args Et.2.2.1) [] h with
                  | none => rw [hc] at hr; cases hr
                  | some r =>
                    obtain ⟨oc1, h1⟩ := r
                    rw [hc] at hr
                    have m1 := arun_mono _ _ _ _ _ _ _ _ _ hc
                    have hM : CM o (xl X) Et d1 h args oc1 h1 := cm_of c3 f1 F.tr m1.1 m1.2 hal (fun X' hX' F' => ih _ _ _ _ _ _ _ _ hc Et c3 X' _ _ F')
                    cases oc1 with
                    | inl v =>
                      have m2 := arun_mono _ _ _ _ _ _ _ _ _ hr
                      refine sd_callU F rfl c1 c3 hd3 c5 c7 c8 m1.1 m1.2 (by have := m2.1; omega) m2.2 hM (fun v' hv => ?_) (fun e he => by cases he)
                      cases hv
                      exact ih _ _ _ _ _ _ _ _ hr E hE X n0 s0 F
                    | inr e =>
                      dsimp only at hr
                      have he3 := arun_e _ _ _ _ _ _ _ _ _ hc
                      have hhnd : hnd mi pc e = hsel E pc e E.2.2.2.2.2 := by unfold hnd; rw [hE]
                      rw [hhnd] at hr
                      cases hs : hsel E pc e E.2.2.2.2.2 with
                      | none => rw [hs] at hr; cases hr
                      | some r2 =>
                        rw [hs] at hr
                        cases r2 with
                        | none =>
                          cases hr
                          refine sd_callU F rfl c1 c3 hd3 c5 c7 c8 m1.1 m1.2 (Nat.le_refl _) (Nat.le_refl _) hM (fun v' hv => by cases hv) (fun e' he => ?_)
                          cases he
                          exact wx_out F hs
                        | some q =>
                          obtain ⟨hp, k, ln⟩ := q
                          have m2 := arun_mono _ _ _ _ _ _ _ _ _ hr
                          refine sd_callU F rfl c1 c3 hd3 c5 c7 c8 m1.1 m1.2 (by have := m2.1; omega) m2.2 hM (fun v' hv => by cases hv) (fun e' he => ?_)
                          cases he
                          exact wx_catch F rfl he3 hs (ih _ _ _ _ _ _ _ _ hr E hE X n0 s0 F)
                · rw [if_neg hal] at hr
                  cases hr
          · cases hr
            obtain ⟨m, rfl, hm⟩ := aex_thr ha
            exact sd_throw F rfl (by rcases hl with hl | hl; (rw [hl] at hd; exact hd); cases hl) hm (Nat.le_refl _) (Nat.le_refl _)
        · rw [if_neg hl] at ha
          cases ha
