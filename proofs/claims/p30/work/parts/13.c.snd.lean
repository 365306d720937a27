/-! ES: sound over the machine -/
theorem lrun_mono : ∀ (n d mi pc : Nat) (ls : aLS) (st : List Value) (h : AH) (ls' : aLS) (h' : AH), lrun n d mi pc ls st h = some (ls', h') → hN h ≤ hN h' ∧ hS h ≤ hS h'
  | 0, _, _, _, _, _, _, _, _, hr => by simp [lrun] at hr
  | n + 1, d, mi, pc, ls, st, h, ls', h', hr => by
    have ih := lrun_mono n
    rw [lrun] at hr
    by_cases hp : pc = 1126
    · rw [if_pos hp] at hr
      cases st with
      | nil => rw [if_pos List.isEmpty_nil] at hr; cases hr; exact ⟨Nat.le_refl _, Nat.le_refl _⟩
      | cons a t => rw [if_neg (fun z => by cases z)] at hr; cases hr
    rw [if_neg hp] at hr
    cases ha : astep d mi pc ls st h with
    | none => rw [ha] at hr; cases hr
    | some r =>
      rw [ha] at hr
      rcases r with ⟨pc', ls', st', h1⟩ | v | ⟨t, args, rest⟩ | e
      · have h2 := ih _ _ _ _ _ _ _ _ hr
        unfold astep at ha
        split at ha
        · cases ha
        · split at ha
          · cases ha
          · split at ha
            · have h3 := aex_mono ha
              omega
            · cases ha
      · cases hr
      · cases d with
        | zero => cases hr
        | succ d1 =>
          dsimp only at hr
          split at hr
          · cases hr
          · split at hr
            · split at hr
              · rename_i v h1 hc
                have a1 := arun_mono _ _ _ _ _ _ _ _ _ hc
                have a2 := ih _ _ _ _ _ _ _ _ hr
                omega
              · cases hr
            · cases hr
      · cases hr
theorem lrun_snd (o : OM) : ∀ (n d mi pc : Nat) (ls : aLS) (st : List Value) (h : AH) (ls' : aLS) (h' : AH), lrun n d mi pc ls st h = some (ls', h') → ∀ (E : MI), mtab[mi]? = some E → ∀ (X : CX) (n0 s0 : Nat) (Q : State → Prop), FR o X E d n0 s0 (oO o + hN h') (hS h') → WG o X E.2.2.1 n0 s0 Q h' 1126 ls' [] → WG o X E.2.2.1 n0 s0 Q h pc ls st
  | 0, _, _, _, _, _, _, _, _, hr => by simp [lrun] at hr
  | n + 1, d, mi, pc, ls, st, h, ls', h', hr => by
    intro E hE X n0 s0 Q F hW
    have ih := lrun_snd o n
    rw [lrun] at hr
    by_cases hp : pc = 1126
    · rw [if_pos hp] at hr
      cases st with
      | nil => rw [if_pos List.isEmpty_nil] at hr; cases hr; rw [hp]; exact hW
      | cons a t => rw [if_neg (fun z => by cases z)] at hr; cases hr
    rw [if_neg hp] at hr
    cases ha : astep d mi pc ls st h with
    | none => rw [ha] at hr; cases hr
    | some r =>
      rw [ha] at hr
      unfold astep at ha
      rw [hE] at ha
      dsimp only at ha
      cases hd : decode E.2.1 pc with
      | error q => rw [hd] at ha; cases ha
      | ok il =>
        obtain ⟨i, len⟩ := il
        rw [hd] at ha
        dsimp only at ha
        by_cases hl : len = ilen i ∨ ilen i = 100
        · rw [if_pos hl] at ha
          rcases r with ⟨pc', ls', st', h1⟩ | v | ⟨t, args, rest⟩ | e
          · have m := lrun_mono _ _ _ _ _ _ _ _ _ hr
            exact aex_next F hd hl ha (Nat.add_le_add_left m.1 _) m.2 (ih _ _ _ _ _ _ _ _ hr E hE X n0 s0 Q F hW)
          · cases hr
          · rcases aex_call ha with ac | ac
            · obtain ⟨idx, kd, wi, host, Et, c1, c2, c3, c4, c5, rfl, c7⟩ := ac
              have hd3 : decode E.2.1 pc = .ok (i, 3) := by
                rcases hl with hl | hl
                · rw [← c4, ← hl]; exact hd
                · rw [c4] at hl; cases hl
              cases d with
              | zero => cases hr
              | succ d1 =>
                dsimp only at hr
                rw [c3] at hr
                dsimp only at hr
                have ht : tgtOK kd t = true := by
                  have ok := all_of mthT_tgt (look_mem c1)
                  simp only [Bool.or_eq_true, decide_eq_true_eq] at ok
                  exact ok.resolve_left (by omega)
                by_cases hal : (aenl args).length ≤ Et.2.2.1
                · rw [if_pos hal] at hr
                  cases hc : arun n d1 t 0 (aent args Et.2.2.1) [] h with
                  | none => rw [hc] at hr; cases hr
                  | some r =>
                    obtain ⟨oc1, h1⟩ := r
                    rw [hc] at hr
                    have m1 := arun_mono _ _ _ _ _ _ _ _ _ hc
                    have hM : CM o (xl X) Et d1 h args oc1 h1 := cm_of c3 (tgt_facts c3 ht).1 F.tr m1.1 m1.2 hal (fun X' hX' F' => arun_snd o n _ _ _ _ _ _ _ _ hc Et c3 X' _ _ F')
                    cases oc1 with
                    | inl v =>
                      have m2 := lrun_mono _ _ _ _ _ _ _ _ _ hr
                      refine sd_call F rfl c1 c2 c3 hd3 c5 c7 m1.1 m1.2 (by have := m2.1; omega) m2.2 hM (fun v' hv => ?_) (fun e he => by cases he)
                      cases hv
                      exact ih _ _ _ _ _ _ _ _ hr E hE X n0 s0 Q F hW
                    | inr e => cases hr
                · rw [if_neg hal] at hr
                  cases hr
            · obtain ⟨idx, kd, wi, host, Et, c1, c3, c4, c5, rfl, c7, c8⟩ := ac
              have hd3 : decode E.2.1 pc = .ok (i, 3) := by
                rcases hl with hl | hl
                · rw [← c4, ← hl]; exact hd
                · rw [c4] at hl; cases hl
              cases d with
              | zero => cases hr
              | succ d1 =>
                dsimp only at hr
                rw [c3] at hr
                dsimp only at hr
                obtain ⟨-, f1, -⟩ := sup_facts c1 (c7.imp (fun z => z.1) (fun z => z.1)) c3
                by_cases hal : (aenl args).length ≤ Et.2.2.1
                · rw [if_pos hal] at hr
                  cases hc : arun n d1 t 0 (aent args Et.2.2.1) [] h with
                  | none => rw [hc] at hr; cases hr
                  | some r =>
                    obtain ⟨oc1, h1⟩ := r
                    rw [hc] at hr
                    have m1 := arun_mono _ _ _ _ _ _ _ _ _ hc
                    have hM : CM o (xl X) Et d1 h args oc1 h1 := cm_of c3 f1 F.tr m1.1 m1.2 hal (fun X' hX' F' => arun_snd o n _ _ _ _ _ _ _ _ hc Et c3 X' _ _ F')
                    cases oc1 with
                    | inl v =>
                      have m2 := lrun_mono _ _ _ _ _ _ _ _ _ hr
                      refine sd_callU F rfl c1 c3 hd3 c5 c7 c8 m1.1 m1.2 (by have := m2.1; omega) m2.2 hM (fun v' hv => ?_) (fun e he => by cases he)
                      cases hv
                      exact ih _ _ _ _ _ _ _ _ hr E hE X n0 s0 Q F hW
                    | inr e => cases hr
                · rw [if_neg hal] at hr
                  cases hr
          · cases hr
        · rw [if_neg hl] at ha
          cases ha
