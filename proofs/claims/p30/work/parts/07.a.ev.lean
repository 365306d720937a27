/-! EV: what a run comes to, as a proposition; an equation for each kind of instruction -/
def Ev (d mi pc : Nat) (ls : aLS) (st : List Value) (h : AH) (Q : AO → AH → Prop) : Prop := ∃ n o h', arun n d mi pc ls st h = some (o, h') ∧ Q o h'
def EvM (d t : Nat) (args : List Value) (h : AH) (K : AO → AH → Prop) : Prop := ∃ Et, mtab[t]? = some Et ∧ (aenl args).length ≤ Et.2.2.1 ∧ Ev d t 0 (aent args Et.2.2.1) [] h K
def konG (d mi pc : Nat) (ls : aLS) (rest : List Value) (Q : AO → AH → Prop) : AO → AH → Prop
  | .inl v, h1 => Ev d mi (pc + 3) ls (v.toList ++ rest) h1 Q
  | .inr e, h1 => match hnd mi pc e with
    | none => False
    | some none => Q (.inr e) h1
    | some (some (hp, k, len)) => Ev d mi (hp + len) (lst1 ls k none) [] h1 Q
/-- how it goes on behind a call, in a method that catches nothing -/
def konN (d mi pc : Nat) (ls : aLS) (rest : List Value) (Q : AO → AH → Prop) : AO → AH → Prop
  | .inl v, h1 => Ev d mi pc ls (v.toList ++ rest) h1 Q
  | .inr e, h1 => Q (.inr e) h1
theorem arun_more : ∀ (n d mi pc : Nat) (ls : aLS) (st : List Value) (h : AH) (r : AO × AH), arun n d mi pc ls st h = some r → ∀ m, n ≤ m → arun m d mi pc ls st h = some r
  | 0, d, mi, pc, ls, st, h, r, k, _, _ => by cases k
  | n + 1, d, mi, pc, ls, st, h, r, k, 0, hm => absurd hm (by omega)
  | n + 1, d, mi, pc, ls, st, h, r, k, m + 1, hm => by
    have hm' : n ≤ m := by omega
    rw [arun] at k ⊢
    generalize astep d mi pc ls st h = a at k ⊢
    match a, k with
    | none, k => cases k
    | some (.inl (pc', ls', st', h')), k => exact arun_more n _ _ _ _ _ _ _ k m hm'
    | some (.inr (.inl v)), k => exact k
    | some (.inr (.inr (.inr e))), k => exact k
    | some (.inr (.inr (.inl (t, args, rest)))), k =>
      match d, k with
      | 0, k => cases k
      | d1 + 1, k =>
        dsimp only at k ⊢
        generalize mtab[t]? = b at k ⊢
        match b, k with
        | none, k => cases k
        | some Et, k =>
          dsimp only at k ⊢
          by_cases hL : (aenl args).length ≤ Et.2.2.1
          · rw [if_pos hL] at k ⊢
            cases hc : arun n d1 t 0 (aent args Et.2.2.1) [] h with
            | none => rw [hc] at k; cases k
            | some r1 =>
              rw [arun_more n _ _ _ _ _ _ _ hc m hm']
              rw [hc] at k
              obtain ⟨o1, h1⟩ := r1
              cases o1 with
              | inl v => exact arun_more n _ _ _ _ _ _ _ k m hm'
              | inr e =>
                dsimp only at k ⊢
                generalize hnd mi pc e = q at k ⊢
                match q, k with
                | none, k => cases k
                | some none, k => exact k
                | some (some (hp, kk, len)), k => exact arun_more n _ _ _ _ _ _ _ k m hm'
          · rw [if_neg hL] at k
            cases k
section EV
variable {d mi pc : Nat} {ls : aLS} {st t : List Value} {h : AH} {Q : AO → AH → Prop} {E : MI}
theorem ev_nx {pc' : Nat} {ls' : aLS} {st' : List Value} {h' : AH} (hs : astep d mi pc ls st h = some (.inl (pc', ls', st', h'))) : Ev d mi pc ls st h Q = Ev d mi pc' ls' st' h' Q := by
  refine propext ⟨fun ⟨n, o, g, h1, h2⟩ => ?_, fun ⟨n, o, g, h1, h2⟩ => ⟨n + 1, o, g, ?_, h2⟩⟩
  · cases n with
    | zero => cases h1
    | succ n => rw [arun, hs] at h1; exact ⟨n, o, g, h1, h2⟩
  · rw [arun, hs]; exact h1
theorem ev_no (hs : astep d mi pc ls st h = none) : Ev d mi pc ls st h Q = False := by
  refine propext ⟨fun ⟨n, o, g, h1, h2⟩ => ?_, fun z => z.elim⟩
  cases n with
  | zero => cases h1
  | succ n => rw [arun, hs] at h1; cases h1
theorem ev_rt {v : Option Value} (hs : astep d mi pc ls st h = some (.inr (.inl v))) : Ev d mi pc ls st h Q = Q (.inl v) h := by
  refine propext ⟨fun ⟨n, o, g, h1, h2⟩ => ?_, fun z => ⟨1, .inl v, h, by rw [arun, hs], z⟩⟩
  cases n with
  | zero => cases h1
  | succ n => rw [arun, hs] at h1; cases h1; exact h2
theorem ev_th {e : Nat} (hs : astep d mi pc ls st h = some (.inr (.inr (.inr e)))) : Ev d mi pc ls st h Q = Q (.inr e) (alH h) := by
  refine propext ⟨fun ⟨n, o, g, h1, h2⟩ => ?_, fun z => ⟨1, .inr e, alH h, by rw [arun, hs], z⟩⟩
  cases n with
  | zero => cases h1
  | succ n => rw [arun, hs] at h1; cases h1; exact h2
theorem ev_cl {tm : Nat} {args rest : List Value} (hs : astep (d + 1) mi pc ls st h = some (.inr (.inr (.inl (tm, args, rest))))) : Ev (d + 1) mi pc ls st h Q = EvM d tm args h (konG (d + 1) mi pc ls rest Q) := by
  refine propext ⟨fun ⟨n, o, g, h1, h2⟩ => ?_, fun ⟨Et, e1, e2, n, o, g, h1, h2⟩ => ?_⟩
  · cases n with
    | zero => cases h1
    | succ n =>
      rw [arun, hs] at h1
      dsimp only at h1
      cases hE : mtab[tm]? with
      | none => rw [hE] at h1; cases h1
      | some Et =>
        rw [hE] at h1
        dsimp only at h1
        by_cases hL : (aenl args).length ≤ Et.2.2.1
        · rw [if_pos hL] at h1
          refine ⟨Et, hE, hL, ?_⟩
          cases hc : arun n d tm 0 (aent args Et.2.2.1) [] h with
          | none => rw [hc] at h1; cases h1
          | some r1 =>
            obtain ⟨o1, g1⟩ := r1
            refine ⟨n, o1, g1, hc, ?_⟩
            rw [hc] at h1
            cases o1 with
            | inl v => exact ⟨n, o, g, h1, h2⟩
            | inr e =>
              unfold konG
              dsimp only at h1 ⊢
              generalize hnd mi pc e = q at h1 ⊢
              match q, h1 with
              | none, h1 => cases h1
              | some none, h1 => cases h1; exact h2
              | some (some (hp, kk, len)), h1 => exact ⟨n, o, g, h1, h2⟩
        · rw [if_neg hL] at h1
          cases h1
  · cases o with
    | inl v =>
      obtain ⟨n2, o2, g2, k1, k2⟩ := h2
      refine ⟨max n n2 + 1, o2, g2, ?_, k2⟩
      rw [arun, hs]
      dsimp only
      rw [e1]
      dsimp only
      rw [if_pos e2, arun_more _ _ _ _ _ _ _ _ h1 _ (Nat.le_max_left n n2)]
      exact arun_more _ _ _ _ _ _ _ _ k1 _ (Nat.le_max_right n n2)
    | inr e =>
      unfold konG at h2
      dsimp only at h2
      cases hq : hnd mi pc e with
      | none => rw [hq] at h2; exact h2.elim
      | some q =>
        cases q with
        | none =>
          rw [hq] at h2
          refine ⟨n + 1, .inr e, g, ?_, h2⟩
          rw [arun, hs]
          dsimp only
          rw [e1]
          dsimp only
          rw [if_pos e2, h1]
          dsimp only
          rw [hq]
        | some q =>
          obtain ⟨hp, kk, len⟩ := q
          rw [hq] at h2
          obtain ⟨n2, o2, g2, k1, k2⟩ := h2
          refine ⟨max n n2 + 1, o2, g2, ?_, k2⟩
          rw [arun, hs]
          dsimp only
          rw [e1]
          dsimp only
          rw [if_pos e2, arun_more _ _ _ _ _ _ _ _ h1 _ (Nat.le_max_left n n2)]
          dsimp only
          rw [hq]
          exact arun_more _ _ _ _ _ _ _ _ k1 _ (Nat.le_max_right n n2)
theorem evm_in {tm : Nat} {args : List Value} {K : AO → AH → Prop} {Et : MI} (hE : mtab[tm]? = some Et) (hL : (aenl args).length ≤ Et.2.2.1) {ls : aLS} (hl : aent args Et.2.2.1 = ls) : EvM d tm args h K = Ev d tm 0 ls [] h K := by
  subst hl
  refine propext ⟨fun ⟨E2, e1, e2, k⟩ => ?_, fun k => ⟨Et, hE, hL, k⟩⟩
  rw [hE] at e1
  cases e1
  exact k
theorem kon_eq {E : MI} {rest : List Value} (hE : mtab[mi]? = some E) (hn : E.2.2.2.2.2 = []) : konG d mi pc ls rest Q = konN d mi (pc + 3) ls rest Q := by
  funext o g
  cases o with
  | inl v => rfl
  | inr e =>
    show (match hnd mi pc e with | none => False | some none => Q (.inr e) g | some (some (hp, k, len)) => Ev d mi (hp + len) (lst1 ls k none) [] g Q) = Q (.inr e) g
    unfold hnd
    rw [hE]
    dsimp only
    rw [hn]
    rfl
theorem konN_v {rest : List Value} {v : Value} {g : AH} : konN d mi pc ls rest Q (.inl (some v)) g = Ev d mi pc ls (v :: rest) g Q := rfl
theorem konN_n {rest : List Value} {g : AH} : konN d mi pc ls rest Q (.inl none) g = Ev d mi pc ls rest g Q := rfl
theorem konN_e {rest : List Value} {e : Nat} {g : AH} : konN d mi pc ls rest Q (.inr e) g = Q (.inr e) g := rfl
theorem konG_v {rest : List Value} {v : Value} {g : AH} : konG d mi pc ls rest Q (.inl (some v)) g = Ev d mi (pc + 3) ls (v :: rest) g Q := rfl
theorem konG_n {rest : List Value} {g : AH} : konG d mi pc ls rest Q (.inl none) g = Ev d mi (pc + 3) ls rest g Q := rfl
theorem konG_c {rest : List Value} {e hp k len : Nat} {g : AH} (hh : hnd mi pc e = some (some (hp, k, len))) : konG d mi pc ls rest Q (.inr e) g = Ev d mi (hp + len) (lst1 ls k none) [] g Q := by
  show (match hnd mi pc e with | none => False | some none => Q (.inr e) g | some (some (hp, k, len)) => Ev d mi (hp + len) (lst1 ls k none) [] g Q) = _
  rw [hh]
theorem konG_o {rest : List Value} {e : Nat} {g : AH} (hh : hnd mi pc e = some none) : konG d mi pc ls rest Q (.inr e) g = Q (.inr e) g := by
  show (match hnd mi pc e with | none => False | some none => Q (.inr e) g | some (some (hp, k, len)) => Ev d mi (hp + len) (lst1 ls k none) [] g Q) = _
  rw [hh]
theorem as_eq {i : Instr} {len : Nat} (hE : mtab[mi]? = some E) (hd : decode E.2.1 pc = .ok (i, len)) (hl : len = ilen i ∨ ilen i = 100) : astep d mi pc ls st h = aex E d pc ls st h i := by
  unfold astep
  rw [hE]
  dsimp only
  rw [hd]
  dsimp only
  rw [if_pos hl]
theorem en_x {i : Instr} {len pc' : Nat} {ls' : aLS} {st' : List Value} {h' : AH} (hE : mtab[mi]? = some E) (hd : decode E.2.1 pc = .ok (i, len)) (hl : len = ilen i ∨ ilen i = 100) (hx : aex E d pc ls st h i = nx pc' ls' st' h') : Ev d mi pc ls st h Q = Ev d mi pc' ls' st' h' Q := ev_nx ((as_eq hE hd hl).trans hx)
theorem en_iconst {n : Int} {c : Int32} (hE : mtab[mi]? = some E) (hd : decode E.2.1 pc = .ok (.iconst n, 1)) (hc : Int32.ofInt n = c) : Ev d mi pc ls st h Q = Ev d mi (pc + 1) ls (.int c :: st) h Q := en_x hE hd (Or.inl rfl) (by subst hc; rfl)
theorem en_bipush {n : Int} {c : Int32} (hE : mtab[mi]? = some E) (hd : decode E.2.1 pc = .ok (.bipush n, 2)) (hc : (Int8.ofInt n).toInt32 = c) : Ev d mi pc ls st h Q = Ev d mi (pc + 2) ls (.int c :: st) h Q := en_x hE hd (Or.inl rfl) (by subst hc; rfl)
theorem en_sipush {n : Int} {c : Int32} (hE : mtab[mi]? = some E) (hd : decode E.2.1 pc = .ok (.sipush n, 3)) (hc : (Int16.ofInt n).toInt32 = c) : Ev d mi pc ls st h Q = Ev d mi (pc + 3) ls (.int c :: st) h Q := en_x hE hd (Or.inl rfl) (by subst hc; rfl)
theorem en_lconst {n : Fin 2} {c : Int64} (hE : mtab[mi]? = some E) (hd : decode E.2.1 pc = .ok (.lconst n, 1)) (hc : Int64.ofNat n = c) : Ev d mi pc ls st h Q = Ev d mi (pc + 1) ls (.long c :: st) h Q := en_x hE hd (Or.inl rfl) (by subst hc; rfl)
theorem en_iload_n {n : Fin 4} {x : Int32} (hE : mtab[mi]? = some E) (hd : decode E.2.1 pc = .ok (.iload_n n, 1)) (hl : ls[(n : Nat)]? = some (some (.int x))) : Ev d mi pc ls st h Q = Ev d mi (pc + 1) ls (.int x :: st) h Q := en_x hE hd (Or.inl rfl) (by show (match ls[(n : Nat)]? with | some (some (.int x)) => nx (pc + 1) ls (.int x :: st) h | _ => none) = _; rw [hl])
theorem en_iload {n : Nat} {x : Int32} (hE : mtab[mi]? = some E) (hd : decode E.2.1 pc = .ok (.iload n, 2)) (hl : ls[n]? = some (some (.int x))) : Ev d mi pc ls st h Q = Ev d mi (pc + 2) ls (.int x :: st) h Q := en_x hE hd (Or.inl rfl) (by show (match ls[n]? with | some (some (.int x)) => nx (pc + 2) ls (.int x :: st) h | _ => none) = _; rw [hl])
theorem en_lload_n {n : Fin 4} {x : Int64} (hE : mtab[mi]? = some E) (hd : decode E.2.1 pc = .ok (.lload_n n, 1)) (hl : ls[(n : Nat)]? = some (some (.long x))) : Ev d mi pc ls st h Q = Ev d mi (pc + 1) ls (.long x :: st) h Q := en_x hE hd (Or.inl rfl) (by show (match ls[(n : Nat)]? with | some (some (.long x)) => nx (pc + 1) ls (.long x :: st) h | _ => none) = _; rw [hl])
theorem en_lload {n : Nat} {x : Int64} (hE : mtab[mi]? = some E) (hd : decode E.2.1 pc = .ok (.lload n, 2)) (hl : ls[n]? = some (some (.long x))) : Ev d mi pc ls st h Q = Ev d mi (pc + 2) ls (.long x :: st) h Q := en_x hE hd (Or.inl rfl) (by show (match ls[n]? with | some (some (.long x)) => nx (pc + 2) ls (.long x :: st) h | _ => none) = _; rw [hl])
theorem en_aload_n {n : Fin 4} {x : Nat} (hE : mtab[mi]? = some E) (hd : decode E.2.1 pc = .ok (.aload_n n, 1)) (hl : ls[(n : Nat)]? = some (some (.ref x))) : Ev d mi pc ls st h Q = Ev d mi (pc + 1) ls (.ref x :: st) h Q := en_x hE hd (Or.inl rfl) (by show (match ls[(n : Nat)]? with | some (some x) => if isR x = true then nx (pc + 1) ls (x :: st) h else none | _ => none) = _; rw [hl]; rfl)
theorem en_aload_nV {n : Fin 4} {x : Value} (hE : mtab[mi]? = some E) (hd : decode E.2.1 pc = .ok (.aload_n n, 1)) (hl : ls[(n : Nat)]? = some (some x)) : Ev d mi pc ls st h Q = (isR x = true ∧ Ev d mi (pc + 1) ls (x :: st) h Q) := by
  by_cases hr : isR x = true
  · rw [eq_true hr, true_and]
    refine en_x hE hd (Or.inl rfl) ?_
    show (match ls[(n : Nat)]? with | some (some x) => if isR x = true then nx (pc + 1) ls (x :: st) h else none | _ => none) = _
    rw [hl]
    exact if_pos hr
  · rw [eq_false hr, false_and]
    refine ev_no ((as_eq hE hd (Or.inl rfl)).trans ?_)
    show (match ls[(n : Nat)]? with | some (some x) => if isR x = true then nx (pc + 1) ls (x :: st) h else none | _ => none) = _
    rw [hl]
    exact if_neg hr
theorem en_aload {n : Nat} {x : Nat} (hE : mtab[mi]? = some E) (hd : decode E.2.1 pc = .ok (.aload n, 2)) (hl : ls[n]? = some (some (.ref x))) : Ev d mi pc ls st h Q = Ev d mi (pc + 2) ls (.ref x :: st) h Q := en_x hE hd (Or.inl rfl) (by show (match ls[n]? with | some (some x) => if isR x = true then nx (pc + 2) ls (x :: st) h else none | _ => none) = _; rw [hl]; rfl)
theorem en_aloadV {n : Nat} {x : Value} (hE : mtab[mi]? = some E) (hd : decode E.2.1 pc = .ok (.aload n, 2)) (hl : ls[n]? = some (some x)) : Ev d mi pc ls st h Q = (isR x = true ∧ Ev d mi (pc + 2) ls (x :: st) h Q) := by
  by_cases hr : isR x = true
  · rw [eq_true hr, true_and]
    refine en_x hE hd (Or.inl rfl) ?_
    show (match ls[n]? with | some (some x) => if isR x = true then nx (pc + 2) ls (x :: st) h else none | _ => none) = _
    rw [hl]
    exact if_pos hr
  · rw [eq_false hr, false_and]
    refine ev_no ((as_eq hE hd (Or.inl rfl)).trans ?_)
    show (match ls[n]? with | some (some x) => if isR x = true then nx (pc + 2) ls (x :: st) h else none | _ => none) = _
    rw [hl]
    exact if_neg hr
theorem en_istore_n {n : Fin 4} {x : Int32} {ls2 : aLS} (hE : mtab[mi]? = some E) (hd : decode E.2.1 pc = .ok (.istore_n n, 1)) (hn : (n : Nat) < ls.length) (hl : lst1 ls (n : Nat) (some (.int x)) = ls2) : Ev d mi pc ls (.int x :: t) h Q = Ev d mi (pc + 1) ls2 t h Q := en_x hE hd (Or.inl rfl) (by subst hl; exact if_pos hn)
theorem en_istore {n : Nat} {x : Int32} {ls2 : aLS} (hE : mtab[mi]? = some E) (hd : decode E.2.1 pc = .ok (.istore n, 2)) (hn : n < ls.length) (hl : lst1 ls n (some (.int x)) = ls2) : Ev d mi pc ls (.int x :: t) h Q = Ev d mi (pc + 2) ls2 t h Q := en_x hE hd (Or.inl rfl) (by subst hl; exact if_pos hn)
theorem en_lstore_n {n : Fin 4} {x : Int64} {ls2 : aLS} (hE : mtab[mi]? = some E) (hd : decode E.2.1 pc = .ok (.lstore_n n, 1)) (hn : (n : Nat) + 1 < ls.length) (hl : lst2 ls (n : Nat) (some (.long x)) = ls2) : Ev d mi pc ls (.long x :: t) h Q = Ev d mi (pc + 1) ls2 t h Q := en_x hE hd (Or.inl rfl) (by subst hl; exact if_pos hn)
theorem en_lstore {n : Nat} {x : Int64} {ls2 : aLS} (hE : mtab[mi]? = some E) (hd : decode E.2.1 pc = .ok (.lstore n, 2)) (hn : n + 1 < ls.length) (hl : lst2 ls n (some (.long x)) = ls2) : Ev d mi pc ls (.long x :: t) h Q = Ev d mi (pc + 2) ls2 t h Q := en_x hE hd (Or.inl rfl) (by subst hl; exact if_pos hn)
theorem en_astore_n {n : Fin 4} {x : Nat} {ls2 : aLS} (hE : mtab[mi]? = some E) (hd : decode E.2.1 pc = .ok (.astore_n n, 1)) (hn : (n : Nat) < ls.length) (hl : lst1 ls (n : Nat) (some (.ref x)) = ls2) : Ev d mi pc ls (.ref x :: t) h Q = Ev d mi (pc + 1) ls2 t h Q := en_x hE hd (Or.inl rfl) (by subst hl; exact if_pos ⟨rfl, hn⟩)
theorem en_astore {n : Nat} {x : Nat} {ls2 : aLS} (hE : mtab[mi]? = some E) (hd : decode E.2.1 pc = .ok (.astore n, 2)) (hn : n < ls.length) (hl : lst1 ls n (some (.ref x)) = ls2) : Ev d mi pc ls (.ref x :: t) h Q = Ev d mi (pc + 2) ls2 t h Q := en_x hE hd (Or.inl rfl) (by subst hl; exact if_pos ⟨rfl, hn⟩)
theorem en_iinc {n : Nat} {k : Int} {x c : Int32} {ls2 : aLS} (hE : mtab[mi]? = some E) (hd : decode E.2.1 pc = .ok (.iinc n k, 3)) (hx : ls[n]? = some (some (.int x))) (hc : Int32.ofInt k = c) (hl : lst1 ls n (some (.int (x + c))) = ls2) : Ev d mi pc ls st h Q = Ev d mi (pc + 3) ls2 st h Q := en_x hE hd (Or.inl rfl) (by subst hc; subst hl; show (match ls[n]? with | some (some (.int x)) => nx (pc + 3) (lst1 ls n (some (.int (x + Int32.ofInt k)))) st h | _ => none) = _; rw [hx])
theorem en_iadd {x y : Int32} (hE : mtab[mi]? = some E) (hd : decode E.2.1 pc = .ok (.iadd, 1)) : Ev d mi pc ls (.int y :: .int x :: t) h Q = Ev d mi (pc + 1) ls (.int (x + y) :: t) h Q := en_x hE hd (Or.inl rfl) rfl
theorem en_isub {x y : Int32} (hE : mtab[mi]? = some E) (hd : decode E.2.1 pc = .ok (.isub, 1)) : Ev d mi pc ls (.int y :: .int x :: t) h Q = Ev d mi (pc + 1) ls (.int (x - y) :: t) h Q := en_x hE hd (Or.inl rfl) rfl
theorem en_imul {x y : Int32} (hE : mtab[mi]? = some E) (hd : decode E.2.1 pc = .ok (.imul, 1)) : Ev d mi pc ls (.int y :: .int x :: t) h Q = Ev d mi (pc + 1) ls (.int (x * y) :: t) h Q := en_x hE hd (Or.inl rfl) rfl
theorem en_iand {x y : Int32} (hE : mtab[mi]? = some E) (hd : decode E.2.1 pc = .ok (.iand, 1)) : Ev d mi pc ls (.int y :: .int x :: t) h Q = Ev d mi (pc + 1) ls (.int (x &&& y) :: t) h Q := en_x hE hd (Or.inl rfl) rfl
theorem en_ior {x y : Int32} (hE : mtab[mi]? = some E) (hd : decode E.2.1 pc = .ok (.ior, 1)) : Ev d mi pc ls (.int y :: .int x :: t) h Q = Ev d mi (pc + 1) ls (.int (x ||| y) :: t) h Q := en_x hE hd (Or.inl rfl) rfl
theorem en_ladd {x y : Int64} (hE : mtab[mi]? = some E) (hd : decode E.2.1 pc = .ok (.ladd, 1)) : Ev d mi pc ls (.long y :: .long x :: t) h Q = Ev d mi (pc + 1) ls (.long (x + y) :: t) h Q := en_x hE hd (Or.inl rfl) rfl
theorem en_lsub {x y : Int64} (hE : mtab[mi]? = some E) (hd : decode E.2.1 pc = .ok (.lsub, 1)) : Ev d mi pc ls (.long y :: .long x :: t) h Q = Ev d mi (pc + 1) ls (.long (x - y) :: t) h Q := en_x hE hd (Or.inl rfl) rfl
theorem en_lmul {x y : Int64} (hE : mtab[mi]? = some E) (hd : decode E.2.1 pc = .ok (.lmul, 1)) : Ev d mi pc ls (.long y :: .long x :: t) h Q = Ev d mi (pc + 1) ls (.long (x * y) :: t) h Q := en_x hE hd (Or.inl rfl) rfl
theorem en_ishl {x y : Int32} (hE : mtab[mi]? = some E) (hd : decode E.2.1 pc = .ok (.ishl, 1)) : Ev d mi pc ls (.int y :: .int x :: t) h Q = Ev d mi (pc + 1) ls (.int (x <<< (y &&& 31)) :: t) h Q := en_x hE hd (Or.inl rfl) rfl
theorem en_ishr {x y : Int32} (hE : mtab[mi]? = some E) (hd : decode E.2.1 pc = .ok (.ishr, 1)) : Ev d mi pc ls (.int y :: .int x :: t) h Q = Ev d mi (pc + 1) ls (.int (x >>> (y &&& 31)) :: t) h Q := en_x hE hd (Or.inl rfl) rfl
theorem en_iushr {x y : Int32} (hE : mtab[mi]? = some E) (hd : decode E.2.1 pc = .ok (.iushr, 1)) : Ev d mi pc ls (.int y :: .int x :: t) h Q = Ev d mi (pc + 1) ls (.int (x.toUInt32 >>> (y.toUInt32 &&& Int32.toUInt32 31)).toInt32 :: t) h Q := en_x hE hd (Or.inl rfl) rfl
theorem en_lcmp {x y : Int64} (hE : mtab[mi]? = some E) (hd : decode E.2.1 pc = .ok (.lcmp, 1)) : Ev d mi pc ls (.long y :: .long x :: t) h Q = Ev d mi (pc + 1) ls (.int (lg_cmp x y) :: t) h Q := en_x hE hd (Or.inl rfl) rfl
theorem en_ineg {x : Int32} (hE : mtab[mi]? = some E) (hd : decode E.2.1 pc = .ok (.ineg, 1)) : Ev d mi pc ls (.int x :: t) h Q = Ev d mi (pc + 1) ls (.int (-x) :: t) h Q := en_x hE hd (Or.inl rfl) rfl
theorem en_i2l {x : Int32} (hE : mtab[mi]? = some E) (hd : decode E.2.1 pc = .ok (.i2l, 1)) : Ev d mi pc ls (.int x :: t) h Q = Ev d mi (pc + 1) ls (.long x.toInt64 :: t) h Q := en_x hE hd (Or.inl rfl) rfl
theorem en_l2i {x : Int64} (hE : mtab[mi]? = some E) (hd : decode E.2.1 pc = .ok (.l2i, 1)) : Ev d mi pc ls (.long x :: t) h Q = Ev d mi (pc + 1) ls (.int x.toInt32 :: t) h Q := en_x hE hd (Or.inl rfl) rfl
theorem en_i2b {x : Int32} (hE : mtab[mi]? = some E) (hd : decode E.2.1 pc = .ok (.i2b, 1)) : Ev d mi pc ls (.int x :: t) h Q = Ev d mi (pc + 1) ls (.int x.toInt8.toInt32 :: t) h Q := en_x hE hd (Or.inl rfl) rfl
theorem en_i2c {x : Int32} (hE : mtab[mi]? = some E) (hd : decode E.2.1 pc = .ok (.i2c, 1)) : Ev d mi pc ls (.int x :: t) h Q = Ev d mi (pc + 1) ls (.int (x.toUInt32 % 65536).toInt32 :: t) h Q := en_x hE hd (Or.inl rfl) rfl
theorem en_idiv {x y : Int32} (hE : mtab[mi]? = some E) (hd : decode E.2.1 pc = .ok (.idiv, 1)) : Ev d mi pc ls (.int y :: .int x :: t) h Q = ((¬ y = 0) ∧ Ev d mi (pc + 1) ls (.int (x / y) :: t) h Q) := by
  by_cases hq : (¬ y = 0)
  · rw [eq_true hq, true_and]
    exact en_x hE hd (Or.inl rfl) (if_neg hq)
  · rw [eq_false hq, false_and]
    exact ev_no ((as_eq hE hd (Or.inl rfl)).trans (if_pos (Decidable.not_not.mp hq)))
theorem en_irem {x y : Int32} (hE : mtab[mi]? = some E) (hd : decode E.2.1 pc = .ok (.irem, 1)) : Ev d mi pc ls (.int y :: .int x :: t) h Q = ((¬ y = 0) ∧ Ev d mi (pc + 1) ls (.int (x - x / y * y) :: t) h Q) := by
  by_cases hq : (¬ y = 0)
  · rw [eq_true hq, true_and]
    exact en_x hE hd (Or.inl rfl) (if_neg hq)
  · rw [eq_false hq, false_and]
    exact ev_no ((as_eq hE hd (Or.inl rfl)).trans (if_pos (Decidable.not_not.mp hq)))
theorem en_ldiv {x y : Int64} (hE : mtab[mi]? = some E) (hd : decode E.2.1 pc = .ok (.ldiv, 1)) : Ev d mi pc ls (.long y :: .long x :: t) h Q = ((¬ y = 0) ∧ Ev d mi (pc + 1) ls (.long (x / y) :: t) h Q) := by
  by_cases hq : (¬ y = 0)
  · rw [eq_true hq, true_and]
    exact en_x hE hd (Or.inl rfl) (if_neg hq)
  · rw [eq_false hq, false_and]
    exact ev_no ((as_eq hE hd (Or.inl rfl)).trans (if_pos (Decidable.not_not.mp hq)))
theorem en_dup {a : Nat} (hE : mtab[mi]? = some E) (hd : decode E.2.1 pc = .ok (.dup, 1)) : Ev d mi pc ls (.ref a :: t) h Q = Ev d mi (pc + 1) ls (.ref a :: .ref a :: t) h Q := en_x hE hd (Or.inl rfl) rfl
theorem en_popI {x : Int32} (hE : mtab[mi]? = some E) (hd : decode E.2.1 pc = .ok (.pop, 1)) : Ev d mi pc ls (.int x :: t) h Q = Ev d mi (pc + 1) ls t h Q := en_x hE hd (Or.inl rfl) rfl
theorem en_popR {a : Nat} (hE : mtab[mi]? = some E) (hd : decode E.2.1 pc = .ok (.pop, 1)) : Ev d mi pc ls (.ref a :: t) h Q = Ev d mi (pc + 1) ls t h Q := en_x hE hd (Or.inl rfl) rfl
theorem en_dup2 {a : Nat} {x : Int32} (hE : mtab[mi]? = some E) (hd : decode E.2.1 pc = .ok (.dup2, 1)) : Ev d mi pc ls (.int x :: .ref a :: t) h Q = Ev d mi (pc + 1) ls (.int x :: .ref a :: .int x :: .ref a :: t) h Q := en_x hE hd (Or.inl rfl) rfl
theorem en_goto {off : Int} {g : Nat} (hE : mtab[mi]? = some E) (hd : decode E.2.1 pc = .ok (.goto off, 3)) (hg : tgt? pc off = some g) : Ev d mi pc ls st h Q = Ev d mi g ls st h Q := en_x hE hd (Or.inl rfl) (by show (match tgt? pc off with | some t => nx t ls st h | none => none) = _; rw [hg])
theorem en_if_eq {off : Int} {g : Nat} {x : Int32} (hE : mtab[mi]? = some E) (hd : decode E.2.1 pc = .ok (.ifCond .eq off, 3)) (hg : tgt? pc off = some g) : Ev d mi pc ls (.int x :: t) h Q = if x = 0 then Ev d mi g ls t h Q else Ev d mi (pc + 3) ls t h Q := by
  have hx : aex E d pc ls (.int x :: t) h (.ifCond .eq off) = nx (if cnd1 .eq x = true then g else pc + 3) ls t h := by
    unfold aex
    dsimp only
    rw [hg]
  by_cases hq : x = 0
  · rw [if_pos hq]
    refine (en_x hE hd (Or.inl rfl) hx).trans ?_
    rw [if_pos (by simp [cnd1, hq])]
  · rw [if_neg hq]
    refine (en_x hE hd (Or.inl rfl) hx).trans ?_
    rw [if_neg (by simp [cnd1, hq])]
theorem en_if_ne {off : Int} {g : Nat} {x : Int32} (hE : mtab[mi]? = some E) (hd : decode E.2.1 pc = .ok (.ifCond .ne off, 3)) (hg : tgt? pc off = some g) : Ev d mi pc ls (.int x :: t) h Q = if x = 0 then Ev d mi (pc + 3) ls t h Q else Ev d mi g ls t h Q := by
  have hx : aex E d pc ls (.int x :: t) h (.ifCond .ne off) = nx (if cnd1 .ne x = true then g else pc + 3) ls t h := by
    unfold aex
    dsimp only
    rw [hg]
  by_cases hq : x = 0
  · rw [if_pos hq]
    refine (en_x hE hd (Or.inl rfl) hx).trans ?_
    rw [if_neg (by simp [cnd1, hq])]
  · rw [if_neg hq]
    refine (en_x hE hd (Or.inl rfl) hx).trans ?_
    rw [if_pos (by simp [cnd1, hq])]
theorem en_if_lt {off : Int} {g : Nat} {x : Int32} (hE : mtab[mi]? = some E) (hd : decode E.2.1 pc = .ok (.ifCond .lt off, 3)) (hg : tgt? pc off = some g) : Ev d mi pc ls (.int x :: t) h Q = if x < 0 then Ev d mi g ls t h Q else Ev d mi (pc + 3) ls t h Q := by
  have hx : aex E d pc ls (.int x :: t) h (.ifCond .lt off) = nx (if cnd1 .lt x = true then g else pc + 3) ls t h := by
    unfold aex
    dsimp only
    rw [hg]
  by_cases hq : x < 0
  · rw [if_pos hq]
    refine (en_x hE hd (Or.inl rfl) hx).trans ?_
    rw [if_pos (by simp [cnd1, hq])]
  · rw [if_neg hq]
    refine (en_x hE hd (Or.inl rfl) hx).trans ?_
    rw [if_neg (by simp [cnd1, hq])]
theorem en_if_ge {off : Int} {g : Nat} {x : Int32} (hE : mtab[mi]? = some E) (hd : decode E.2.1 pc = .ok (.ifCond .ge off, 3)) (hg : tgt? pc off = some g) : Ev d mi pc ls (.int x :: t) h Q = if 0 ≤ x then Ev d mi g ls t h Q else Ev d mi (pc + 3) ls t h Q := by
  have hx : aex E d pc ls (.int x :: t) h (.ifCond .ge off) = nx (if cnd1 .ge x = true then g else pc + 3) ls t h := by
    unfold aex
    dsimp only
    rw [hg]
  by_cases hq : 0 ≤ x
  · rw [if_pos hq]
    refine (en_x hE hd (Or.inl rfl) hx).trans ?_
    rw [if_pos (by simp [cnd1, hq])]
  · rw [if_neg hq]
    refine (en_x hE hd (Or.inl rfl) hx).trans ?_
    rw [if_neg (by simp [cnd1, hq])]
theorem en_if_gt {off : Int} {g : Nat} {x : Int32} (hE : mtab[mi]? = some E) (hd : decode E.2.1 pc = .ok (.ifCond .gt off, 3)) (hg : tgt? pc off = some g) : Ev d mi pc ls (.int x :: t) h Q = if 0 < x then Ev d mi g ls t h Q else Ev d mi (pc + 3) ls t h Q := by
  have hx : aex E d pc ls (.int x :: t) h (.ifCond .gt off) = nx (if cnd1 .gt x = true then g else pc + 3) ls t h := by
    unfold aex
    dsimp only
    rw [hg]
  by_cases hq : 0 < x
  · rw [if_pos hq]
    refine (en_x hE hd (Or.inl rfl) hx).trans ?_
    rw [if_pos (by simp [cnd1, hq])]
  · rw [if_neg hq]
    refine (en_x hE hd (Or.inl rfl) hx).trans ?_
    rw [if_neg (by simp [cnd1, hq])]
theorem en_if_le {off : Int} {g : Nat} {x : Int32} (hE : mtab[mi]? = some E) (hd : decode E.2.1 pc = .ok (.ifCond .le off, 3)) (hg : tgt? pc off = some g) : Ev d mi pc ls (.int x :: t) h Q = if x ≤ 0 then Ev d mi g ls t h Q else Ev d mi (pc + 3) ls t h Q := by
  have hx : aex E d pc ls (.int x :: t) h (.ifCond .le off) = nx (if cnd1 .le x = true then g else pc + 3) ls t h := by
    unfold aex
    dsimp only
    rw [hg]
  by_cases hq : x ≤ 0
  · rw [if_pos hq]
    refine (en_x hE hd (Or.inl rfl) hx).trans ?_
    rw [if_pos (by simp [cnd1, hq])]
  · rw [if_neg hq]
    refine (en_x hE hd (Or.inl rfl) hx).trans ?_
    rw [if_neg (by simp [cnd1, hq])]
theorem en_ic_eq {off : Int} {g : Nat} {x y : Int32} (hE : mtab[mi]? = some E) (hd : decode E.2.1 pc = .ok (.if_icmp .eq off, 3)) (hg : tgt? pc off = some g) : Ev d mi pc ls (.int y :: .int x :: t) h Q = if x = y then Ev d mi g ls t h Q else Ev d mi (pc + 3) ls t h Q := by
  have hx : aex E d pc ls (.int y :: .int x :: t) h (.if_icmp .eq off) = nx (if cnd2 .eq x y = true then g else pc + 3) ls t h := by
    unfold aex
    dsimp only
    rw [hg]
  by_cases hq : x = y
  · rw [if_pos hq]
    refine (en_x hE hd (Or.inl rfl) hx).trans ?_
    rw [if_pos (by simp [cnd2, hq])]
  · rw [if_neg hq]
    refine (en_x hE hd (Or.inl rfl) hx).trans ?_
    rw [if_neg (by simp [cnd2, hq])]
theorem en_ic_ne {off : Int} {g : Nat} {x y : Int32} (hE : mtab[mi]? = some E) (hd : decode E.2.1 pc = .ok (.if_icmp .ne off, 3)) (hg : tgt? pc off = some g) : Ev d mi pc ls (.int y :: .int x :: t) h Q = if x = y then Ev d mi (pc + 3) ls t h Q else Ev d mi g ls t h Q := by
  have hx : aex E d pc ls (.int y :: .int x :: t) h (.if_icmp .ne off) = nx (if cnd2 .ne x y = true then g else pc + 3) ls t h := by
    unfold aex
    dsimp only
    rw [hg]
  by_cases hq : x = y
  · rw [if_pos hq]
    refine (en_x hE hd (Or.inl rfl) hx).trans ?_
    rw [if_neg (by simp [cnd2, hq])]
  · rw [if_neg hq]
    refine (en_x hE hd (Or.inl rfl) hx).trans ?_
    rw [if_pos (by simp [cnd2, hq])]
theorem en_ic_lt {off : Int} {g : Nat} {x y : Int32} (hE : mtab[mi]? = some E) (hd : decode E.2.1 pc = .ok (.if_icmp .lt off, 3)) (hg : tgt? pc off = some g) : Ev d mi pc ls (.int y :: .int x :: t) h Q = if x < y then Ev d mi g ls t h Q else Ev d mi (pc + 3) ls t h Q := by
  have hx : aex E d pc ls (.int y :: .int x :: t) h (.if_icmp .lt off) = nx (if cnd2 .lt x y = true then g else pc + 3) ls t h := by
    unfold aex
    dsimp only
    rw [hg]
  by_cases hq : x < y
  · rw [if_pos hq]
    refine (en_x hE hd (Or.inl rfl) hx).trans ?_
    rw [if_pos (by simp [cnd2, hq])]
  · rw [if_neg hq]
    refine (en_x hE hd (Or.inl rfl) hx).trans ?_
    rw [if_neg (by simp [cnd2, hq])]
theorem en_ic_ge {off : Int} {g : Nat} {x y : Int32} (hE : mtab[mi]? = some E) (hd : decode E.2.1 pc = .ok (.if_icmp .ge off, 3)) (hg : tgt? pc off = some g) : Ev d mi pc ls (.int y :: .int x :: t) h Q = if y ≤ x then Ev d mi g ls t h Q else Ev d mi (pc + 3) ls t h Q := by
  have hx : aex E d pc ls (.int y :: .int x :: t) h (.if_icmp .ge off) = nx (if cnd2 .ge x y = true then g else pc + 3) ls t h := by
    unfold aex
    dsimp only
    rw [hg]
  by_cases hq : y ≤ x
  · rw [if_pos hq]
    refine (en_x hE hd (Or.inl rfl) hx).trans ?_
    rw [if_pos (by simp [cnd2, hq])]
  · rw [if_neg hq]
    refine (en_x hE hd (Or.inl rfl) hx).trans ?_
    rw [if_neg (by simp [cnd2, hq])]
theorem en_ic_gt {off : Int} {g : Nat} {x y : Int32} (hE : mtab[mi]? = some E) (hd : decode E.2.1 pc = .ok (.if_icmp .gt off, 3)) (hg : tgt? pc off = some g) : Ev d mi pc ls (.int y :: .int x :: t) h Q = if y < x then Ev d mi g ls t h Q else Ev d mi (pc + 3) ls t h Q := by
  have hx : aex E d pc ls (.int y :: .int x :: t) h (.if_icmp .gt off) = nx (if cnd2 .gt x y = true then g else pc + 3) ls t h := by
    unfold aex
    dsimp only
    rw [hg]
  by_cases hq : y < x
  · rw [if_pos hq]
    refine (en_x hE hd (Or.inl rfl) hx).trans ?_
    rw [if_pos (by simp [cnd2, hq])]
  · rw [if_neg hq]
    refine (en_x hE hd (Or.inl rfl) hx).trans ?_
    rw [if_neg (by simp [cnd2, hq])]
theorem en_ic_le {off : Int} {g : Nat} {x y : Int32} (hE : mtab[mi]? = some E) (hd : decode E.2.1 pc = .ok (.if_icmp .le off, 3)) (hg : tgt? pc off = some g) : Ev d mi pc ls (.int y :: .int x :: t) h Q = if x ≤ y then Ev d mi g ls t h Q else Ev d mi (pc + 3) ls t h Q := by
  have hx : aex E d pc ls (.int y :: .int x :: t) h (.if_icmp .le off) = nx (if cnd2 .le x y = true then g else pc + 3) ls t h := by
    unfold aex
    dsimp only
    rw [hg]
  by_cases hq : x ≤ y
  · rw [if_pos hq]
    refine (en_x hE hd (Or.inl rfl) hx).trans ?_
    rw [if_pos (by simp [cnd2, hq])]
  · rw [if_neg hq]
    refine (en_x hE hd (Or.inl rfl) hx).trans ?_
    rw [if_neg (by simp [cnd2, hq])]
def fl (c i : Nat) : Option (Nat × Nat) := (look (c, i) fldT).map (fun q => (q.2.2.1, q.2.2.2.1))
theorem fl_look {c i cj k : Nat} (hf : fl c i = some (cj, k)) : ∃ w b s, look (c, i) fldT = some (w, b, cj, k, s) := by
  unfold fl at hf
  cases hq : look (c, i) fldT with
  | none => rw [hq] at hf; cases hf
  | some q =>
    rw [hq] at hf
    obtain ⟨w, b, cj', k', s⟩ := q
    cases hf
    exact ⟨w, b, s, rfl⟩
theorem en_getfield {i cj k a : Nat} (hE : mtab[mi]? = some E) (hd : decode E.2.1 pc = .ok (.getfield i, 3)) (hf : fl E.2.2.2.2.1 i = some (cj, k)) : Ev d mi pc ls (.ref a :: t) h Q = (hk h a = kc cj ∧ Ev d mi (pc + 3) ls (hF h a k :: t) h Q) := by
  obtain ⟨w, b, s, hf⟩ := fl_look hf
  have hx : aex E d pc ls (.ref a :: t) h (.getfield i) = if hk h a = kc cj then nx (pc + 3) ls (hF h a k :: t) h else none := by
    show (match look (E.2.2.2.2.1, i) fldT with | some (_, _, cj, k, _) => if hk h a = kc cj then nx (pc + 3) ls (hF h a k :: t) h else none | none => none) = _
    rw [hf]
  by_cases hq : hk h a = kc cj
  · rw [eq_true hq, true_and]
    exact en_x hE hd (Or.inl rfl) (hx.trans (if_pos hq))
  · rw [eq_false hq, false_and]
    exact ev_no ((as_eq hE hd (Or.inl rfl)).trans (hx.trans (if_neg hq)))
/-- may a field be written here? -/
def pok (E : MI) (i cj k : Nat) : Bool := match look (E.2.2.2.2.1, i) fldT with
  | some (_, nest, cj', k', _) => decide (cj' = cj ∧ k' = k) && (!(cT cj k).2.2.2 || (!nest && (decide (E.1.name = "<init>") && decide (cj = E.2.2.2.2.1))))
  | none => false
theorem en_putfield {i cj k a : Nat} {v : Value} (hE : mtab[mi]? = some E) (hd : decode E.2.1 pc = .ok (.putfield i, 3)) (hf : pok E i cj k = true) (hv : okv (cY cj k) v = true) : Ev d mi pc ls (v :: .ref a :: t) h Q = (hk h a = kc cj ∧ Ev d mi (pc + 3) ls t (wF h a k v) Q) := by
  unfold pok at hf
  cases hq : look (E.2.2.2.2.1, i) fldT with
  | none => rw [hq] at hf; cases hf
  | some q =>
    obtain ⟨w, nest, cj', k', s⟩ := q
    rw [hq] at hf
    dsimp only at hf
    rw [Bool.and_eq_true] at hf
    obtain ⟨h1, h2⟩ := hf
    obtain ⟨rfl, rfl⟩ := of_decide_eq_true h1
    have h3 : (cT cj' k').2.2.2 = false ∨ (nest = false ∧ E.1.name = "<init>" ∧ cj' = E.2.2.2.2.1) := by
      rw [Bool.or_eq_true, Bool.and_eq_true, Bool.and_eq_true] at h2
      rcases h2 with h2 | ⟨h2, h4, h5⟩
      · exact Or.inl (by simpa using h2)
      · exact Or.inr ⟨by simpa using h2, of_decide_eq_true h4, of_decide_eq_true h5⟩
    have hx : aex E d pc ls (v :: .ref a :: t) h (.putfield i) = if hk h a = kc cj' ∧ okv (cY cj' k') v = true ∧ ((cT cj' k').2.2.2 = false ∨ (nest = false ∧ E.1.name = "<init>" ∧ cj' = E.2.2.2.2.1)) then nx (pc + 3) ls t (wF h a k' v) else none := by
      show (match look (E.2.2.2.2.1, i) fldT with | some (_, nest, cj, k, _) => if hk h a = kc cj ∧ okv (cY cj k) v = true ∧ ((cT cj k).2.2.2 = false ∨ (nest = false ∧ E.1.name = "<init>" ∧ cj = E.2.2.2.2.1)) then nx (pc + 3) ls t (wF h a k v) else none | none => none) = _
      rw [hq]
    by_cases hk9 : hk h a = kc cj'
    · rw [eq_true hk9, true_and]
      exact en_x hE hd (Or.inl rfl) (hx.trans (if_pos ⟨hk9, hv, h3⟩))
    · rw [eq_false hk9, false_and]
      exact ev_no ((as_eq hE hd (Or.inl rfl)).trans (hx.trans (if_neg (fun z => hk9 z.1))))
theorem en_iaload {j : Int32} {a : Nat} (hE : mtab[mi]? = some E) (hd : decode E.2.1 pc = .ok (.iaload, 1)) : Ev d mi pc ls (.int j :: .ref a :: t) h Q = (hk h a = 10 ∧ inb j (hl h a) ∧ Ev d mi (pc + 1) ls (.int (hA h a j.toNatClampNeg) :: t) h Q) := by
  by_cases hq : hk h a = 10 ∧ inb j (hl h a)
  · rw [eq_true hq.1, true_and, eq_true hq.2, true_and]
    exact en_x hE hd (Or.inl rfl) (if_pos hq)
  · rw [← and_assoc, eq_false hq, false_and]
    exact ev_no ((as_eq hE hd (Or.inl rfl)).trans (if_neg hq))
theorem en_ialoadX {j : Int32} (hE : mtab[mi]? = some E) (hd : decode E.2.1 pc = .ok (.iaload, 1)) : Ev d mi pc ls (.int j :: scrV :: t) h Q = (True ∧ inb j (hX h).1 ∧ Ev d mi (pc + 1) ls (.int ((hX h).2 j.toNatClampNeg) :: t) h Q) := by
  by_cases hq : True ∧ inb j (hX h).1
  · rw [eq_true hq.1, true_and, eq_true hq.2, true_and]
    exact en_x hE hd (Or.inl rfl) (if_pos ⟨rfl, hq.2⟩)
  · rw [← and_assoc, eq_false hq, false_and]
    exact ev_no ((as_eq hE hd (Or.inl rfl)).trans (if_neg (fun z => hq ⟨trivial, z.2⟩)))
theorem en_baload {j : Int32} {a : Nat} (hE : mtab[mi]? = some E) (hd : decode E.2.1 pc = .ok (.baload, 1)) : Ev d mi pc ls (.int j :: .ref a :: t) h Q = (hk h a = 11 ∧ inb j (hl h a) ∧ Ev d mi (pc + 1) ls (.int (hA h a j.toNatClampNeg) :: t) h Q) := by
  by_cases hq : hk h a = 11 ∧ inb j (hl h a)
  · rw [eq_true hq.1, true_and, eq_true hq.2, true_and]
    exact en_x hE hd (Or.inl rfl) (if_pos hq)
  · rw [← and_assoc, eq_false hq, false_and]
    exact ev_no ((as_eq hE hd (Or.inl rfl)).trans (if_neg hq))
theorem en_laload {j : Int32} {a : Nat} (hE : mtab[mi]? = some E) (hd : decode E.2.1 pc = .ok (.laload, 1)) : Ev d mi pc ls (.int j :: .ref a :: t) h Q = (hk h a = 12 ∧ inb j (hl h a) ∧ Ev d mi (pc + 1) ls (.long (hJ h a j.toNatClampNeg) :: t) h Q) := by
  by_cases hq : hk h a = 12 ∧ inb j (hl h a)
  · rw [eq_true hq.1, true_and, eq_true hq.2, true_and]
    exact en_x hE hd (Or.inl rfl) (if_pos hq)
  · rw [← and_assoc, eq_false hq, false_and]
    exact ev_no ((as_eq hE hd (Or.inl rfl)).trans (if_neg hq))
theorem en_aaload {j : Int32} {a : Nat} (hE : mtab[mi]? = some E) (hd : decode E.2.1 pc = .ok (.aaload, 1)) : Ev d mi pc ls (.int j :: .ref a :: t) h Q = ((13 ≤ hk h a ∧ hk h a ≤ 16) ∧ inb j (hl h a) ∧ Ev d mi (pc + 1) ls (orv (hR h a j.toNatClampNeg) :: t) h Q) := by
  by_cases hq : (13 ≤ hk h a ∧ hk h a ≤ 16) ∧ inb j (hl h a)
  · rw [eq_true hq.1, true_and, eq_true hq.2, true_and]
    exact en_x hE hd (Or.inl rfl) (if_pos hq)
  · rw [← and_assoc, eq_false hq, false_and]
    exact ev_no ((as_eq hE hd (Or.inl rfl)).trans (if_neg hq))
theorem en_iastore {j : Int32} {a : Nat} {x : Int32} (hE : mtab[mi]? = some E) (hd : decode E.2.1 pc = .ok (.iastore, 1)) : Ev d mi pc ls (.int x :: .int j :: .ref a :: t) h Q = (hk h a = 10 ∧ inb j (hl h a) ∧ Ev d mi (pc + 1) ls t (wA h a (upd (hA h a) j.toNatClampNeg x)) Q) := by
  by_cases hq : hk h a = 10 ∧ inb j (hl h a)
  · rw [eq_true hq.1, true_and, eq_true hq.2, true_and]
    exact en_x hE hd (Or.inl rfl) (if_pos hq)
  · rw [← and_assoc, eq_false hq, false_and]
    exact ev_no ((as_eq hE hd (Or.inl rfl)).trans (if_neg hq))
theorem en_bastore {j : Int32} {a : Nat} {x : Int32} (hE : mtab[mi]? = some E) (hd : decode E.2.1 pc = .ok (.bastore, 1)) : Ev d mi pc ls (.int x :: .int j :: .ref a :: t) h Q = (hk h a = 11 ∧ inb j (hl h a) ∧ Ev d mi (pc + 1) ls t (wA h a (upd (hA h a) j.toNatClampNeg x.toInt8.toInt32)) Q) := by
  by_cases hq : hk h a = 11 ∧ inb j (hl h a)
  · rw [eq_true hq.1, true_and, eq_true hq.2, true_and]
    exact en_x hE hd (Or.inl rfl) (if_pos hq)
  · rw [← and_assoc, eq_false hq, false_and]
    exact ev_no ((as_eq hE hd (Or.inl rfl)).trans (if_neg hq))
theorem en_lastore {j : Int32} {a : Nat} {x : Int64} (hE : mtab[mi]? = some E) (hd : decode E.2.1 pc = .ok (.lastore, 1)) : Ev d mi pc ls (.long x :: .int j :: .ref a :: t) h Q = (hk h a = 12 ∧ inb j (hl h a) ∧ Ev d mi (pc + 1) ls t (wJ h a (vp_updL (hJ h a) j.toNatClampNeg x)) Q) := by
  by_cases hq : hk h a = 12 ∧ inb j (hl h a)
  · rw [eq_true hq.1, true_and, eq_true hq.2, true_and]
    exact en_x hE hd (Or.inl rfl) (if_pos hq)
  · rw [← and_assoc, eq_false hq, false_and]
    exact ev_no ((as_eq hE hd (Or.inl rfl)).trans (if_neg hq))
theorem en_aastore {j : Int32} {a v kd kv : Nat} (hE : mtab[mi]? = some E) (hd : decode E.2.1 pc = .ok (.aastore, 1)) (hkd : (kd = 13 ∧ kv = 3) ∨ (kd = 15 ∧ kv = 20) ∨ (kd = 16 ∧ kv = 7) ∨ (kd = 14 ∧ kv = 10)) : hk h a = kd → Ev d mi pc ls (.ref v :: .int j :: .ref a :: t) h Q = (hk h v = kv ∧ inb j (hl h a) ∧ Ev d mi (pc + 1) ls t (wR h a (va_up (hR h a) j.toNatClampNeg (some v))) Q) := by
  intro ha
  have hx : aex E d pc ls (.ref v :: .int j :: .ref a :: t) h .aastore = if hk h v = kv ∧ inb j (hl h a) then nx (pc + 1) ls t (wR h a (va_up (hR h a) j.toNatClampNeg (some v))) else none := by
    show (if (hk h a = 13 ∨ hk h a = 15 ∨ hk h a = 16) ∧ hk h v = kc (elc (hk h a)) ∧ inb j (hl h a) then nx (pc + 1) ls t (wR h a (va_up (hR h a) j.toNatClampNeg (some v))) else if hk h a = 14 ∧ hk h v = 10 ∧ inb j (hl h a) then nx (pc + 1) ls t (wR h a (va_up (hR h a) j.toNatClampNeg (some v))) else none) = _
    rcases hkd with ⟨rfl, rfl⟩ | ⟨rfl, rfl⟩ | ⟨rfl, rfl⟩ | ⟨rfl, rfl⟩
    · by_cases hq : hk h v = 3 ∧ inb j (hl h a)
      · rw [if_pos hq, if_pos ⟨Or.inl ha, by rw [ha]; exact hq.1, hq.2⟩]
      · rw [if_neg hq, if_neg (fun z => hq ⟨by have := z.2.1; rw [ha] at this; exact this, z.2.2⟩), if_neg (by omega)]
    · by_cases hq : hk h v = 20 ∧ inb j (hl h a)
      · rw [if_pos hq, if_pos ⟨Or.inr (Or.inl ha), by rw [ha]; exact hq.1, hq.2⟩]
      · rw [if_neg hq, if_neg (fun z => hq ⟨by have := z.2.1; rw [ha] at this; exact this, z.2.2⟩), if_neg (by omega)]
    · by_cases hq : hk h v = 7 ∧ inb j (hl h a)
      · rw [if_pos hq, if_pos ⟨Or.inr (Or.inr ha), by rw [ha]; exact hq.1, hq.2⟩]
      · rw [if_neg hq, if_neg (fun z => hq ⟨by have := z.2.1; rw [ha] at this; exact this, z.2.2⟩), if_neg (by omega)]
    · by_cases hq : hk h v = 10 ∧ inb j (hl h a)
      · rw [if_pos hq, if_neg (by omega), if_pos ⟨ha, hq⟩]
      · rw [if_neg hq, if_neg (by omega), if_neg (fun z => hq z.2)]
  by_cases hq : hk h v = kv ∧ inb j (hl h a)
  · rw [eq_true hq.1, true_and, eq_true hq.2, true_and]
    exact en_x hE hd (Or.inl rfl) (hx.trans (if_pos hq))
  · rw [← and_assoc, eq_false hq, false_and]
    exact ev_no ((as_eq hE hd (Or.inl rfl)).trans (hx.trans (if_neg hq)))
/-- the kind is asked for in the equation itself -/
theorem en_aastoreK {j : Int32} {a v kd kv : Nat} (hE : mtab[mi]? = some E) (hd : decode E.2.1 pc = .ok (.aastore, 1)) (hkd : (kd = 13 ∧ kv = 3) ∨ (kd = 15 ∧ kv = 20) ∨ (kd = 16 ∧ kv = 7) ∨ (kd = 14 ∧ kv = 10)) (ha : hk h a = kd) : Ev d mi pc ls (.ref v :: .int j :: .ref a :: t) h Q = (hk h v = kv ∧ inb j (hl h a) ∧ Ev d mi (pc + 1) ls t (wR h a (va_up (hR h a) j.toNatClampNeg (some v))) Q) := en_aastore hE hd hkd ha
theorem en_aastoreN {j : Int32} {a : Nat} (hE : mtab[mi]? = some E) (hd : decode E.2.1 pc = .ok (.aastore, 1)) : Ev d mi pc ls (.null :: .int j :: .ref a :: t) h Q = ((hk h a = 13 ∨ hk h a = 15 ∨ hk h a = 16) ∧ inb j (hl h a) ∧ Ev d mi (pc + 1) ls t (wR h a (va_up (hR h a) j.toNatClampNeg none)) Q) := by
  by_cases hq : (hk h a = 13 ∨ hk h a = 15 ∨ hk h a = 16) ∧ inb j (hl h a)
  · rw [eq_true hq.1, true_and, eq_true hq.2, true_and]
    exact en_x hE hd (Or.inl rfl) (if_pos hq)
  · rw [← and_assoc, eq_false hq, false_and]
    exact ev_no ((as_eq hE hd (Or.inl rfl)).trans (if_neg hq))
theorem en_aaloadV {j : Int32} (hE : mtab[mi]? = some E) (hd : decode E.2.1 pc = .ok (.aaload, 1)) : Ev d mi pc ls (.int j :: .float 100 :: t) h Q = (inb j 3 ∧ Ev d mi (pc + 1) ls (litV (vrN j.toNatClampNeg) :: t) h Q) := by
  by_cases hq : inb j 3
  · rw [eq_true hq, true_and]
    exact en_x hE hd (Or.inl rfl) (if_pos ⟨rfl, hq⟩)
  · rw [eq_false hq, false_and]
    exact ev_no ((as_eq hE hd (Or.inl rfl)).trans (if_neg (fun z => hq z.2)))
theorem en_baloadD {j : Int32} {u : UInt32} (hu : u.toNat = 101 ∨ u.toNat = 102) (hE : mtab[mi]? = some E) (hd : decode E.2.1 pc = .ok (.baload, 1)) : Ev d mi pc ls (.int j :: .float u :: t) h Q = (inb j 100 ∧ Ev d mi (pc + 1) ls (.int (dgt u.toNat j.toNatClampNeg) :: t) h Q) := by
  have hx : aex E d pc ls (.int j :: .float u :: t) h .baload = if inb j 100 then nx (pc + 1) ls (.int (dgt u.toNat j.toNatClampNeg) :: t) h else none := by
    show (if u.toNat % 2 = 1 ∧ 3 ≤ u.toNat ∧ u.toNat < 37 ∧ inb j (lenJ.getD (u.toNat / 2 - 1) 0) then nx (pc + 1) ls (.int ((bytJ.getD (u.toNat / 2 - 1) []).getD j.toNatClampNeg 0) :: t) h else if (u.toNat = 101 ∨ u.toNat = 102) ∧ inb j 100 then nx (pc + 1) ls (.int (dgt u.toNat j.toNatClampNeg) :: t) h else none) = _
    rw [if_neg (by omega)]
    by_cases hq : inb j 100
    · rw [if_pos hq, if_pos ⟨hu, hq⟩]
    · rw [if_neg hq, if_neg (fun z => hq z.2)]
  by_cases hq : inb j 100
  · rw [eq_true hq, true_and]
    exact en_x hE hd (Or.inl rfl) (hx.trans (if_pos hq))
  · rw [eq_false hq, false_and]
    exact ev_no ((as_eq hE hd (Or.inl rfl)).trans (hx.trans (if_neg hq)))
theorem en_null (hE : mtab[mi]? = some E) (hd : decode E.2.1 pc = .ok (.aconst_null, 1)) : Ev d mi pc ls t h Q = Ev d mi (pc + 1) ls (.null :: t) h Q := en_x hE hd (Or.inl rfl) rfl
theorem en_ifnonnull {off : Int} {g : Nat} {x : Value} (hx : isR x = true) (hE : mtab[mi]? = some E) (hd : decode E.2.1 pc = .ok (.ifnonnull off, 3)) (hg : tgt? pc off = some g) : Ev d mi pc ls (x :: t) h Q = Ev d mi (if x = .null then pc + 3 else g) ls t h Q := by
  refine en_x hE hd (Or.inl rfl) ?_
  unfold aex
  dsimp only
  rw [hg]
  exact if_pos hx
theorem en_ifnonnullN {off : Int} {g : Nat} (hE : mtab[mi]? = some E) (hd : decode E.2.1 pc = .ok (.ifnonnull off, 3)) (hg : tgt? pc off = some g) : Ev d mi pc ls (.null :: t) h Q = Ev d mi (pc + 3) ls t h Q := (en_ifnonnull rfl hE hd hg).trans (by rw [if_pos rfl])
theorem en_ifnonnullR {off : Int} {g a : Nat} (hE : mtab[mi]? = some E) (hd : decode E.2.1 pc = .ok (.ifnonnull off, 3)) (hg : tgt? pc off = some g) : Ev d mi pc ls (.ref a :: t) h Q = Ev d mi g ls t h Q := (en_ifnonnull rfl hE hd hg).trans (by rw [if_neg (by intro z; cases z)])
theorem en_ifnonnullL {off : Int} {g k : Nat} (hk6 : k < 17) (hE : mtab[mi]? = some E) (hd : decode E.2.1 pc = .ok (.ifnonnull off, 3)) (hg : tgt? pc off = some g) : Ev d mi pc ls (litV k :: t) h Q = Ev d mi g ls t h Q := by
  have hr : isR (litV k) = true := by
    show decide ((UInt32.ofNat (2 * k + 2)).toNat ≠ 1) = true
    rw [UInt32.toNat_ofNat']
    exact decide_eq_true (by omega)
  exact (en_ifnonnull hr hE hd hg).trans (by rw [if_neg (by intro z; cases z)])
theorem en_areturn {x : Value} {ty : FieldType} (hE : mtab[mi]? = some E) (hd : decode E.2.1 pc = .ok (.areturn, 1)) (hr : E.2.2.2.1 = some ty) (hty : ty.isReference = true) : Ev d mi pc ls [x] h Q = (isR x = true ∧ Q (.inl (some x)) h) := by
  have hx : aex E d pc ls [x] h .areturn = if isR x = true ∧ ty.isReference = true then some (.inr (.inl (some x))) else none := by
    unfold aex
    dsimp only
    rw [hr]
  by_cases hq : isR x = true
  · rw [eq_true hq, true_and]
    exact ev_rt ((as_eq hE hd (Or.inl rfl)).trans (hx.trans (if_pos ⟨hq, hty⟩)))
  · rw [eq_false hq, false_and]
    exact ev_no ((as_eq hE hd (Or.inl rfl)).trans (hx.trans (if_neg (fun z => hq z.1))))
theorem en_cast {i w kd a : Nat} (hE : mtab[mi]? = some E) (hd : decode E.2.1 pc = .ok (.checkcast i, 3)) (hc : look (E.2.2.2.2.1, i) ckT = some (w, kd)) : Ev d mi pc ls (.ref a :: t) h Q = (hk h a = kd ∧ Ev d mi (pc + 3) ls (.ref a :: t) h Q) := by
  have hx : aex E d pc ls (.ref a :: t) h (.checkcast i) = if hk h a = kd then nx (pc + 3) ls (.ref a :: t) h else none := by
    show (match look (E.2.2.2.2.1, i) ckT with | some (_, kd) => if hk h a = kd then nx (pc + 3) ls (.ref a :: t) h else none | none => none) = _
    rw [hc]
  by_cases hq : hk h a = kd
  · rw [eq_true hq, true_and]
    exact en_x hE hd (Or.inl rfl) (hx.trans (if_pos hq))
  · rw [eq_false hq, false_and]
    exact ev_no ((as_eq hE hd (Or.inl rfl)).trans (hx.trans (if_neg hq)))
theorem en_astore_nV {n : Fin 4} {x : Value} {ls2 : aLS} (hE : mtab[mi]? = some E) (hd : decode E.2.1 pc = .ok (.astore_n n, 1)) (hn : (n : Nat) < ls.length) (hl : lst1 ls n (some x) = ls2) : Ev d mi pc ls (x :: t) h Q = (isR x = true ∧ Ev d mi (pc + 1) ls2 t h Q) := by
  subst hl
  by_cases hq : isR x = true
  · rw [eq_true hq, true_and]
    exact en_x hE hd (Or.inl rfl) (if_pos ⟨hq, hn⟩)
  · rw [eq_false hq, false_and]
    exact ev_no ((as_eq hE hd (Or.inl rfl)).trans (if_neg (fun z => hq z.1)))
theorem en_astoreV {n : Nat} {x : Value} {ls2 : aLS} (hE : mtab[mi]? = some E) (hd : decode E.2.1 pc = .ok (.astore n, 2)) (hn : n < ls.length) (hl : lst1 ls n (some x) = ls2) : Ev d mi pc ls (x :: t) h Q = (isR x = true ∧ Ev d mi (pc + 2) ls2 t h Q) := by
  subst hl
  by_cases hq : isR x = true
  · rw [eq_true hq, true_and]
    exact en_x hE hd (Or.inl rfl) (if_pos ⟨hq, hn⟩)
  · rw [eq_false hq, false_and]
    exact ev_no ((as_eq hE hd (Or.inl rfl)).trans (if_neg (fun z => hq z.1)))
theorem en_arraylength {a : Nat} (hE : mtab[mi]? = some E) (hd : decode E.2.1 pc = .ok (.arraylength, 1)) : Ev d mi pc ls (.ref a :: t) h Q = ((10 ≤ hk h a ∧ hk h a ≤ 16) ∧ Ev d mi (pc + 1) ls (.int (nI (hl h a)) :: t) h Q) := by
  by_cases hq : 10 ≤ hk h a ∧ hk h a ≤ 16
  · rw [eq_true hq, true_and]
    exact en_x hE hd (Or.inl rfl) (if_pos hq)
  · rw [eq_false hq, false_and]
    exact ev_no ((as_eq hE hd (Or.inl rfl)).trans (if_neg hq))
theorem en_arraylengthX (hE : mtab[mi]? = some E) (hd : decode E.2.1 pc = .ok (.arraylength, 1)) : Ev d mi pc ls (scrV :: t) h Q = Ev d mi (pc + 1) ls (.int (nI (hX h).1) :: t) h Q := en_x hE hd (Or.inl rfl) rfl
/-- the fields of a new object of class number cj -/
def dfl (cj : Nat) : Nat → Value := fun k => defaultValue (cY cj k)
theorem en_new {i cj n w : Nat} (hE : mtab[mi]? = some E) (hd : decode E.2.1 pc = .ok (.new i, 3)) (hc : look (E.2.2.2.2.1, i) clsT = some (w, cj)) (hn : cNf cj = n) : Ev d mi pc ls st h Q = Ev d mi (pc + 3) ls (.ref (hN h) :: st) (alO h (kc cj) n (dfl cj)) Q := by
  subst hn
  refine en_x hE hd (Or.inl rfl) ?_
  show (match look (E.2.2.2.2.1, i) clsT with | some (_, cj) => nx (pc + 3) ls (.ref (hN h) :: st) (alO h (kc cj) (cNf cj) (fun k => defaultValue (cY cj k))) | none => athr E d pc i st) = _
  rw [hc]
  rfl
theorem en_throw {i e : Nat} (hE : mtab[mi]? = some E) (hd : decode E.2.1 pc = .ok (.new i, 3)) (hc : look (E.2.2.2.2.1, i) clsT = none) (ha : athr E (d + 10) pc i [] = some (.inr (.inr (.inr e)))) : Ev (d + 10) mi pc ls [] h Q = Q (.inr e) (alH h) := by
  refine ev_th ((as_eq hE hd (Or.inl rfl)).trans ?_)
  show (match look (E.2.2.2.2.1, i) clsT with | some (_, cj) => nx (pc + 3) ls (.ref (hN h) :: []) (alO h (kc cj) (cNf cj) (fun k => defaultValue (cY cj k))) | none => athr E (d + 10) pc i []) = _
  rw [hc]
  exact ha
theorem athr_of {pc i e wx is ic : Nat} (h1 : look (E.2.2.2.2.1, i) exT = some (wx, e)) (h2 : decode E.2.1 (pc + 3) = .ok (.dup, 1)) (h3 : decode E.2.1 (pc + 4) = .ok (.ldc is, 2)) (h4 : decode E.2.1 (pc + 6) = .ok (.invokespecial ic, 3)) (h5 : decode E.2.1 (pc + 9) = .ok (.athrow, 1)) (h6 : (look (E.2.2.2.2.1, is) strT).isSome = true) (h7 : (look (E.2.2.2.2.1, ic) exI).map (·.2) = some e) (hh : E.2.2.2.2.2 = []) : athr E (d + 10) pc i [] = some (.inr (.inr (.inr e))) := by
  unfold athr
  rw [h1]
  dsimp only
  rw [h2, h3, h4, h5]
  show (match look (E.2.2.2.2.1, is) strT, look (E.2.2.2.2.1, ic) exI with | some _, some (_, e2) => if e2 = e ∧ 10 ≤ d + 10 ∧ ([] : List Value).length ≤ 4 ∧ E.2.2.2.2.2 = [] then (some (.inr (.inr (.inr e))) : Option AS) else none | _, _ => none) = _
  cases q1 : look (E.2.2.2.2.1, is) strT with
  | none => rw [q1] at h6; cases h6
  | some u =>
    cases q2 : look (E.2.2.2.2.1, ic) exI with
    | none => rw [q2] at h7; cases h7
    | some u2 =>
      rw [q2] at h7
      obtain ⟨u3, u4⟩ := u2
      cases h7
      dsimp only
      exact if_pos ⟨rfl, by omega, by decide, hh⟩
theorem en_newI {n : Int32} (hE : mtab[mi]? = some E) (hd : decode E.2.1 pc = .ok (.newarray .int, 2)) : Ev d mi pc ls (.int n :: t) h Q = (¬ (n < 0 ∨ 60000000 < n.toNatClampNeg) ∧ Ev d mi (pc + 2) ls (.ref (hN h) :: t) (alA h 10 n.toNatClampNeg) Q) := by
  by_cases hq : n < 0 ∨ 60000000 < n.toNatClampNeg
  · rw [eq_true hq, not_true, false_and]
    exact ev_no ((as_eq hE hd (Or.inl rfl)).trans (if_pos hq))
  · rw [eq_false hq, not_false_eq_true, true_and]
    exact en_x hE hd (Or.inl rfl) (if_neg hq)
theorem en_newB {n : Int32} (hE : mtab[mi]? = some E) (hd : decode E.2.1 pc = .ok (.newarray .byte, 2)) : Ev d mi pc ls (.int n :: t) h Q = (¬ (n < 0 ∨ 60000000 < n.toNatClampNeg) ∧ Ev d mi (pc + 2) ls (.ref (hN h) :: t) (alA h 11 n.toNatClampNeg) Q) := by
  by_cases hq : n < 0 ∨ 60000000 < n.toNatClampNeg
  · rw [eq_true hq, not_true, false_and]
    exact ev_no ((as_eq hE hd (Or.inl rfl)).trans (if_pos hq))
  · rw [eq_false hq, not_false_eq_true, true_and]
    exact en_x hE hd (Or.inl rfl) (if_neg hq)
theorem en_newJ {n : Int32} (hE : mtab[mi]? = some E) (hd : decode E.2.1 pc = .ok (.newarray .long, 2)) : Ev d mi pc ls (.int n :: t) h Q = (¬ (n < 0 ∨ 60000000 < n.toNatClampNeg) ∧ Ev d mi (pc + 2) ls (.ref (hN h) :: t) (alA h 12 n.toNatClampNeg) Q) := by
  by_cases hq : n < 0 ∨ 60000000 < n.toNatClampNeg
  · rw [eq_true hq, not_true, false_and]
    exact ev_no ((as_eq hE hd (Or.inl rfl)).trans (if_pos hq))
  · rw [eq_false hq, not_false_eq_true, true_and]
    exact en_x hE hd (Or.inl rfl) (if_neg hq)
theorem en_newL {i w cj kd : Nat} {n : Int32} (hE : mtab[mi]? = some E) (hd : decode E.2.1 pc = .ok (.anewarray i, 3)) (hc : look (E.2.2.2.2.1, i) clsT = some (w, cj)) (hcj : cj = 2 ∨ cj = 9 ∨ cj = 6) (hkd : rowK cj = kd) : Ev d mi pc ls (.int n :: t) h Q = (¬ (n < 0 ∨ 60000000 < n.toNatClampNeg) ∧ Ev d mi (pc + 3) ls (.ref (hN h) :: t) (alA h kd n.toNatClampNeg) Q) := by
  subst hkd
  by_cases hq : n < 0 ∨ 60000000 < n.toNatClampNeg
  · rw [eq_true hq, not_true, false_and]
    refine ev_no ((as_eq hE hd (Or.inl rfl)).trans ?_)
    unfold aex
    exact if_pos hq
  · rw [eq_false hq, not_false_eq_true, true_and]
    refine en_x hE hd (Or.inl rfl) ?_
    unfold aex
    refine (if_neg hq).trans ?_
    rw [hc]
    exact if_pos hcj
theorem en_newI2 {i w : Nat} {n : Int32} (hE : mtab[mi]? = some E) (hd : decode E.2.1 pc = .ok (.anewarray i, 3)) (hc0 : look (E.2.2.2.2.1, i) clsT = none) (hc : look (E.2.2.2.2.1, i) ckT = some (w, 10)) : Ev d mi pc ls (.int n :: t) h Q = (¬ (n < 0 ∨ 60000000 < n.toNatClampNeg) ∧ Ev d mi (pc + 3) ls (.ref (hN h) :: t) (alA h 14 n.toNatClampNeg) Q) := by
  by_cases hq : n < 0 ∨ 60000000 < n.toNatClampNeg
  · rw [eq_true hq, not_true, false_and]
    refine ev_no ((as_eq hE hd (Or.inl rfl)).trans ?_)
    unfold aex
    exact if_pos hq
  · rw [eq_false hq, not_false_eq_true, true_and]
    refine en_x hE hd (Or.inl rfl) ?_
    unfold aex
    refine (if_neg hq).trans ?_
    rw [hc0, hc]
    rfl
theorem en_newM {i : Nat} {n k : Int32} (hE : mtab[mi]? = some E) (hd : decode E.2.1 pc = .ok (.multianewarray i 2, 4)) (hc : (look (E.2.2.2.2.1, i) mnaT).isSome = true) : Ev d mi pc ls (.int k :: .int n :: t) h Q = (¬ (n < 0 ∨ k < 0 ∨ 60000000 < n.toNatClampNeg ∨ 60000000 < k.toNatClampNeg) ∧ Ev d mi (pc + 4) ls (.ref (hN h) :: t) (alM h n.toNatClampNeg k.toNatClampNeg) Q) := by
  have hx : aex E d pc ls (.int k :: .int n :: t) h (.multianewarray i 2) = if n < 0 ∨ k < 0 ∨ 60000000 < n.toNatClampNeg ∨ 60000000 < k.toNatClampNeg then none else nx (pc + 4) ls (.ref (hN h) :: t) (alM h n.toNatClampNeg k.toNatClampNeg) := by
    show (match look (E.2.2.2.2.1, i) mnaT with | some _ => if n < 0 ∨ k < 0 ∨ 60000000 < n.toNatClampNeg ∨ 60000000 < k.toNatClampNeg then none else nx (pc + 4) ls (.ref (hN h) :: t) (alM h n.toNatClampNeg k.toNatClampNeg) | none => none) = _
    cases q1 : look (E.2.2.2.2.1, i) mnaT with
    | none => rw [q1] at hc; cases hc
    | some u => rfl
  by_cases hq : n < 0 ∨ k < 0 ∨ 60000000 < n.toNatClampNeg ∨ 60000000 < k.toNatClampNeg
  · rw [eq_true hq, not_true, false_and]
    exact ev_no ((as_eq hE hd (Or.inl rfl)).trans (hx.trans (if_pos hq)))
  · rw [eq_false hq, not_false_eq_true, true_and]
    exact en_x hE hd (Or.inl rfl) (hx.trans (if_neg hq))
theorem en_ldcI {i w : Nat} {v c : Int32} (hE : mtab[mi]? = some E) (hd : decode E.2.1 pc = .ok (.ldc i, 2)) (hc : look (E.2.2.2.2.1, i) cstT = some (w, v)) (hv : v = c) : Ev d mi pc ls st h Q = Ev d mi (pc + 2) ls (.int c :: st) h Q := by
  subst hv
  refine en_x hE hd (Or.inl rfl) ?_
  show (match look (E.2.2.2.2.1, i) cstT with | some (_, v) => nx (pc + 2) ls (.int v :: st) h | none => match look (E.2.2.2.2.1, i) strT with | some (_, k) => nx (pc + 2) ls (litV k :: st) h | none => none) = _
  rw [hc]
theorem en_ldcS {i k : Nat} (hE : mtab[mi]? = some E) (hd : decode E.2.1 pc = .ok (.ldc i, 2)) (h0 : look (E.2.2.2.2.1, i) cstT = none) (hc : (look (E.2.2.2.2.1, i) strT).map (·.2) = some k) : Ev d mi pc ls st h Q = Ev d mi (pc + 2) ls (litV k :: st) h Q := by
  refine en_x hE hd (Or.inl rfl) ?_
  show (match look (E.2.2.2.2.1, i) cstT with | some (_, v) => nx (pc + 2) ls (.int v :: st) h | none => match look (E.2.2.2.2.1, i) strT with | some (_, k) => nx (pc + 2) ls (litV k :: st) h | none => none) = _
  rw [h0]
  cases q1 : look (E.2.2.2.2.1, i) strT with
  | none => rw [q1] at hc; cases hc
  | some u =>
    rw [q1] at hc
    obtain ⟨u1, u2⟩ := u
    cases hc
    rfl
theorem en_ldc2 {i w : Nat} {v c : Int64} (hE : mtab[mi]? = some E) (hd : decode E.2.1 pc = .ok (.ldc2_w i, 3)) (hc : look (E.2.2.2.2.1, i) cstLT = some (w, v)) (hv : v = c) : Ev d mi pc ls st h Q = Ev d mi (pc + 3) ls (.long c :: st) h Q := by
  subst hv
  refine en_x hE hd (Or.inl rfl) ?_
  show (match look (E.2.2.2.2.1, i) cstLT with | some (_, v) => nx (pc + 3) ls (.long v :: st) h | none => none) = _
  rw [hc]
/-- which method the constant names, and how it is called -/
def ml (c i : Nat) : Option (Nat × Nat) := (look (c, i) mthT).map (fun q => (q.1, q.2.2.1))
theorem ml_look {c i kd tm : Nat} (hf : ml c i = some (kd, tm)) : ∃ w s, look (c, i) mthT = some (kd, w, tm, s) := by
  unfold ml at hf
  cases hq : look (c, i) mthT with
  | none => rw [hq] at hf; cases hf
  | some q =>
    rw [hq] at hf
    obtain ⟨kd', w, tm', s⟩ := q
    cases hf
    exact ⟨w, s, rfl⟩
theorem acall_of {n tm : Nat} {st args rest : List Value} (h1 : n ≤ st.length) (h2 : ((st.drop n).map fun v => v.category).sum ≤ 8) (h3 : (st.take n).reverse = args) (h4 : st.drop n = rest) : acall tm n st = some (.inr (.inr (.inl (tm, args, rest)))) := by
  unfold acall
  rw [if_pos ⟨h1, h2⟩, h3, h4]
theorem en_static {i kd tm n : Nat} {Et : MI} {args rest : List Value} (hE : mtab[mi]? = some E) (hd : decode E.2.1 pc = .ok (.invokestatic i, 3)) (hm : ml E.2.2.2.2.1 i = some (kd, tm)) (hkd : kd = 0 ∨ kd = 1) (hEt : mtab[tm]? = some Et) (hn : npar Et = n) (h1 : n ≤ st.length) (h2 : ((st.drop n).map fun v => v.category).sum ≤ 8) (h3 : (st.take n).reverse = args) (h4 : st.drop n = rest) : Ev (d + 1) mi pc ls st h Q = EvM d tm args h (konG (d + 1) mi pc ls rest Q) := by
  obtain ⟨w, s, hf⟩ := ml_look hm
  subst hn
  refine ev_cl ((as_eq hE hd (Or.inl rfl)).trans ?_)
  unfold aex
  dsimp only
  rw [if_neg (Nat.succ_ne_zero d), hf]
  rcases hkd with rfl | rfl
  · show (match mtab[tm]? with | some Et => acall tm (npar Et) st | none => none) = _
    rw [hEt]
    exact acall_of h1 h2 h3 h4
  · show (match mtab[tm]? with | some Et => acall tm (npar Et) st | none => none) = _
    rw [hEt]
    exact acall_of h1 h2 h3 h4
theorem en_virtual {i kd tm n : Nat} {Et : MI} {args rest : List Value} {v : Value} (hE : mtab[mi]? = some E) (hd : decode E.2.1 pc = .ok (.invokevirtual i, 3)) (hm : ml E.2.2.2.2.1 i = some (kd, tm)) (hkd : kd = 2 ∨ kd = 3) (hEt : mtab[tm]? = some Et) (hn : npar Et = n) (h0 : st[n]? = some v) (h1 : n + 1 ≤ st.length) (h2 : ((st.drop (n + 1)).map fun v => v.category).sum ≤ 8) (h3 : (st.take (n + 1)).reverse = args) (h4 : st.drop (n + 1) = rest) : Ev (d + 1) mi pc ls st h Q = (recv h Et.2.2.2.2.1 (some v) = true ∧ EvM d tm args h (konG (d + 1) mi pc ls rest Q)) := by
  obtain ⟨w, s, hf⟩ := ml_look hm
  subst hn
  have hx : aex E (d + 1) pc ls st h (.invokevirtual i) = if recv h Et.2.2.2.2.1 (some v) = true then acall tm (npar Et + 1) st else none := by
    unfold aex
    dsimp only
    rw [hf]
    rcases hkd with rfl | rfl
    · show (match mtab[tm]? with | some Et => if recv h Et.2.2.2.2.1 st[npar Et]? = true then acall tm (npar Et + 1) st else none | none => none) = _
      rw [hEt, ← h0]
    · show (match mtab[tm]? with | some Et => if recv h Et.2.2.2.2.1 st[npar Et]? = true then acall tm (npar Et + 1) st else none | none => none) = _
      rw [hEt, ← h0]
  by_cases hq : recv h Et.2.2.2.2.1 (some v) = true
  · rw [eq_true hq, true_and]
    exact ev_cl ((as_eq hE hd (Or.inl rfl)).trans (hx.trans ((if_pos hq).trans (acall_of h1 h2 h3 h4))))
  · rw [eq_false hq, false_and]
    exact ev_no ((as_eq hE hd (Or.inl rfl)).trans (hx.trans (if_neg hq)))
theorem en_special {i kd tm n : Nat} {Et : MI} {args rest : List Value} {v : Value} (hE : mtab[mi]? = some E) (hd : decode E.2.1 pc = .ok (.invokespecial i, 3)) (hm : ml E.2.2.2.2.1 i = some (kd, tm)) (hkd : kd = 4 ∨ kd = 5) (hEt : mtab[tm]? = some Et) (hn : npar Et = n) (h0 : st[n]? = some v) (h1 : n + 1 ≤ st.length) (h2 : ((st.drop (n + 1)).map fun v => v.category).sum ≤ 8) (h3 : (st.take (n + 1)).reverse = args) (h4 : st.drop (n + 1) = rest) : Ev (d + 1) mi pc ls st h Q = (recv h Et.2.2.2.2.1 (some v) = true ∧ EvM d tm args h (konG (d + 1) mi pc ls rest Q)) := by
  obtain ⟨w, s, hf⟩ := ml_look hm
  subst hn
  have hx : aex E (d + 1) pc ls st h (.invokespecial i) = if recv h Et.2.2.2.2.1 (some v) = true then acall tm (npar Et + 1) st else none := by
    unfold aex
    dsimp only
    rw [hf]
    rcases hkd with rfl | rfl
    · show (match mtab[tm]? with | some Et => if recv h Et.2.2.2.2.1 st[npar Et]? = true then acall tm (npar Et + 1) st else none | none => none) = _
      rw [hEt, ← h0]
    · show (match mtab[tm]? with | some Et => if recv h Et.2.2.2.2.1 st[npar Et]? = true then acall tm (npar Et + 1) st else none | none => none) = _
      rw [hEt, ← h0]
  by_cases hq : recv h Et.2.2.2.2.1 (some v) = true
  · rw [eq_true hq, true_and]
    exact ev_cl ((as_eq hE hd (Or.inl rfl)).trans (hx.trans ((if_pos hq).trans (acall_of h1 h2 h3 h4))))
  · rw [eq_false hq, false_and]
    exact ev_no ((as_eq hE hd (Or.inl rfl)).trans (hx.trans (if_neg hq)))
theorem recv_ref {a c : Nat} (hc : c < 12) : (recv h c (some (.ref a)) = true) = (hk h a = kc c) := by
  unfold recv
  simp [hc, show ¬ c = 15 by omega]
theorem recv_15 {a : Nat} : (recv h 15 (some (.ref a)) = true) = (hk h a = 21) := by
  unfold recv
  simp
theorem en_objinit {i a : Nat} (hE : mtab[mi]? = some E) (hd : decode E.2.1 pc = .ok (.invokespecial i, 3)) (hm : (ml E.2.2.2.2.1 i).map (·.1) = some 6) (h2 : t.length ≤ 4) : Ev (d + 1) mi pc ls (.ref a :: t) h Q = Ev (d + 1) mi (pc + 3) ls t h Q := by
  cases hq : ml E.2.2.2.2.1 i with
  | none => rw [hq] at hm; cases hm
  | some q =>
    obtain ⟨kd, tm⟩ := q
    rw [hq] at hm
    cases hm
    obtain ⟨w, s, hf⟩ := ml_look hq
    refine en_x hE hd (Or.inl rfl) ?_
    unfold aex
    dsimp only
    rw [hf]
    exact (if_neg (Nat.succ_ne_zero d)).trans (if_pos h2)
theorem ml_fst {c i kd : Nat} (hm : (ml c i).map (·.1) = some kd) : ∃ w tm s, look (c, i) mthT = some (kd, w, tm, s) := by
  cases hq : ml c i with
  | none => rw [hq] at hm; cases hm
  | some q =>
    obtain ⟨kd', tm⟩ := q
    rw [hq] at hm
    cases hm
    obtain ⟨w, s, hf⟩ := ml_look hq
    exact ⟨w, tm, s, hf⟩
theorem en_max {i : Nat} {x y : Int32} (hE : mtab[mi]? = some E) (hd : decode E.2.1 pc = .ok (.invokestatic i, 3)) (hm : (ml E.2.2.2.2.1 i).map (·.1) = some 7) (h2 : t.length ≤ 4) : Ev (d + 1) mi pc ls (.int y :: .int x :: t) h Q = Ev (d + 1) mi (pc + 3) ls (.int (if x < y then y else x) :: t) h Q := by
  obtain ⟨w, tm, s, hf⟩ := ml_fst hm
  refine en_x hE hd (Or.inl rfl) ?_
  unfold aex
  dsimp only
  rw [if_neg (Nat.succ_ne_zero d), hf]
  exact if_pos h2
theorem en_min {i : Nat} {x y : Int32} (hE : mtab[mi]? = some E) (hd : decode E.2.1 pc = .ok (.invokestatic i, 3)) (hm : (ml E.2.2.2.2.1 i).map (·.1) = some 8) (h2 : t.length ≤ 4) : Ev (d + 1) mi pc ls (.int y :: .int x :: t) h Q = Ev (d + 1) mi (pc + 3) ls (.int (if y < x then y else x) :: t) h Q := by
  obtain ⟨w, tm, s, hf⟩ := ml_fst hm
  refine en_x hE hd (Or.inl rfl) ?_
  unfold aex
  dsimp only
  rw [if_neg (Nat.succ_ne_zero d), hf]
  exact if_pos h2
theorem en_acopy {i a b : Nat} {n : Int32} (hE : mtab[mi]? = some E) (hd : decode E.2.1 pc = .ok (.invokestatic i, 3)) (hm : (ml E.2.2.2.2.1 i).map (·.1) = some 9) (h10 : hk h a = 10) : Ev (d + 1) mi pc ls [.int n, .int 0, .ref b, .int 0, .ref a] h Q = ((hk h b = 10 ∧ ¬ n < 0 ∧ n.toNatClampNeg = hl h b ∧ hl h b ≤ hl h a) ∧ Ev (d + 1) mi (pc + 3) ls [] (wA h b (hA h a)) Q) := by
  obtain ⟨w, tm, s, hf⟩ := ml_fst hm
  have hx : aex E (d + 1) pc ls [.int n, .int 0, .ref b, .int 0, .ref a] h (.invokestatic i) = if hk h b = 10 ∧ ¬ n < 0 ∧ n.toNatClampNeg = hl h b ∧ hl h b ≤ hl h a then nx (pc + 3) ls [] (wA h b (hA h a)) else none := by
    unfold aex
    dsimp only
    rw [if_neg (Nat.succ_ne_zero d), hf]
    by_cases hq : hk h b = 10 ∧ ¬ n < 0 ∧ n.toNatClampNeg = hl h b ∧ hl h b ≤ hl h a
    · rw [if_pos hq]
      exact if_pos ⟨by decide, rfl, rfl, h10, hq⟩
    · rw [if_neg hq]
      exact (if_neg (fun z => hq z.2.2.2.2)).trans (if_neg (fun z => by have := z.2.1; omega))
  by_cases hq : hk h b = 10 ∧ ¬ n < 0 ∧ n.toNatClampNeg = hl h b ∧ hl h b ≤ hl h a
  · rw [eq_true hq, true_and]
    exact en_x hE hd (Or.inl rfl) (hx.trans (if_pos hq))
  · rw [eq_false hq, false_and]
    exact ev_no ((as_eq hE hd (Or.inl rfl)).trans (hx.trans (if_neg hq)))
theorem en_ireturnI {v : Int32} (hE : mtab[mi]? = some E) (hd : decode E.2.1 pc = .ok (.ireturn, 1)) (hr : E.2.2.2.1 = some .int) : Ev d mi pc ls [.int v] h Q = Q (.inl (some (.int v))) h := by
  refine ev_rt ((as_eq hE hd (Or.inl rfl)).trans ?_)
  unfold aex
  dsimp only
  rw [hr]
  exact if_pos rfl
theorem en_ireturn {v : Int32} {ty : FieldType} (hE : mtab[mi]? = some E) (hd : decode E.2.1 pc = .ok (.ireturn, 1)) (hr : E.2.2.2.1 = some ty) : Ev d mi pc ls [.int v] h Q = (narrow ty (.int v) = .int v ∧ Q (.inl (some (.int v))) h) := by
  have hx : aex E d pc ls [.int v] h .ireturn = if narrow ty (.int v) = .int v then some (.inr (.inl (some (.int v)))) else none := by
    unfold aex
    dsimp only
    rw [hr]
  by_cases hq : narrow ty (.int v) = .int v
  · rw [eq_true hq, true_and]
    exact ev_rt ((as_eq hE hd (Or.inl rfl)).trans (hx.trans (if_pos hq)))
  · rw [eq_false hq, false_and]
    exact ev_no ((as_eq hE hd (Or.inl rfl)).trans (hx.trans (if_neg hq)))
theorem en_lreturn {v : Int64} (hE : mtab[mi]? = some E) (hd : decode E.2.1 pc = .ok (.lreturn, 1)) (hr : E.2.2.2.1 = some .long) : Ev d mi pc ls [.long v] h Q = Q (.inl (some (.long v))) h := by
  refine ev_rt ((as_eq hE hd (Or.inl rfl)).trans ?_)
  unfold aex
  dsimp only
  rw [hr]
theorem en_return (hE : mtab[mi]? = some E) (hd : decode E.2.1 pc = .ok (.return_, 1)) (hr : E.2.2.2.1 = none) : Ev d mi pc ls [] h Q = Q (.inl none) h := by
  refine ev_rt ((as_eq hE hd (Or.inl rfl)).trans ?_)
  unfold aex
  dsimp only
  rw [hr]
/-- where a switch goes -/
def tsw (pc : Nat) (df lo hi : Int) (offs : Array Int) (x : Int32) : Option Nat := if x.toInt < lo ∨ hi < x.toInt then tgt? pc df else (offs[(x.toInt - lo).toNat]?).bind (tgt? pc)
theorem en_tsw {df lo hi : Int} {offs : Array Int} {len g : Nat} {x : Int32} (hE : mtab[mi]? = some E) (hd : decode E.2.1 pc = .ok (.tableswitch df lo hi offs, len)) (hg : tsw pc df lo hi offs x = some g) : Ev d mi pc ls (.int x :: t) h Q = Ev d mi g ls t h Q := by
  refine en_x hE hd (Or.inr rfl) ?_
  show (match tsw pc df lo hi offs x with | some g => nx g ls t h | none => none) = _
  rw [hg]
theorem litV_n {k : Nat} (hk6 : k < 17) : (UInt32.ofNat (2 * k + 2)).toNat = 2 * k + 2 := by
  rw [UInt32.toNat_ofNat']
  omega
theorem litB_n {k : Nat} (hk6 : k < 17) : (UInt32.ofNat (2 * k + 3)).toNat = 2 * k + 3 := by
  rw [UInt32.toNat_ofNat']
  omega
theorem aex_getL {i k fk : Nat} (hf : (look (E.2.2.2.2.1, i) litF).map (·.2) = some fk) (hk6 : k < 17) : aex E d pc ls (litV k :: t) h (.getfield i) = nx (pc + 3) ls ((if fk = 0 then litB k else .int 0) :: t) h := by
  cases q1 : look (E.2.2.2.2.1, i) litF with
  | none => rw [q1] at hf; cases hf
  | some q =>
    rw [q1] at hf
    obtain ⟨w, f2⟩ := q
    cases hf
    unfold litV aex
    dsimp only
    rw [q1]
    dsimp only
    rw [litV_n hk6, if_pos (by omega), show (2 * k + 2) / 2 - 1 = k by omega]
theorem en_getfieldL0 {i k : Nat} (hE : mtab[mi]? = some E) (hd : decode E.2.1 pc = .ok (.getfield i, 3)) (hf : (look (E.2.2.2.2.1, i) litF).map (·.2) = some 0) (hk6 : k < 17) : Ev d mi pc ls (litV k :: t) h Q = Ev d mi (pc + 3) ls (litB k :: t) h Q := en_x hE hd (Or.inl rfl) (aex_getL hf hk6)
theorem en_getfieldL1 {i k : Nat} (hE : mtab[mi]? = some E) (hd : decode E.2.1 pc = .ok (.getfield i, 3)) (hf : (look (E.2.2.2.2.1, i) litF).map (·.2) = some 1) (hk6 : k < 17) : Ev d mi pc ls (litV k :: t) h Q = Ev d mi (pc + 3) ls (.int 0 :: t) h Q := en_x hE hd (Or.inl rfl) (aex_getL hf hk6)
theorem en_getstatic {i k : Nat} (hE : mtab[mi]? = some E) (hd : decode E.2.1 pc = .ok (.getstatic i, 3)) (hf : (look (E.2.2.2.2.1, i) stT).map (·.2.1) = some k) : Ev d mi pc ls st h Q = Ev d mi (pc + 3) ls (stV k :: st) h Q := by
  refine en_x hE hd (Or.inl rfl) ?_
  cases q1 : look (E.2.2.2.2.1, i) stT with
  | none => rw [q1] at hf; cases hf
  | some q =>
    rw [q1] at hf
    obtain ⟨w, f2, f3, f4⟩ := q
    cases hf
    unfold aex
    dsimp only
    rw [q1]
theorem en_arraylengthL {k : Nat} (hE : mtab[mi]? = some E) (hd : decode E.2.1 pc = .ok (.arraylength, 1)) (hk6 : k < 17) : Ev d mi pc ls (litB k :: t) h Q = Ev d mi (pc + 1) ls (.int (nI (lenJ.getD k 0)) :: t) h Q := by
  refine en_x hE hd (Or.inl rfl) ?_
  have h0 : ¬ UInt32.ofNat (2 * k + 3) = 0 := fun z => by
    have := congrArg UInt32.toNat z
    rw [litB_n hk6] at this
    exact absurd this (by show ¬ _ = 0; omega)
  unfold litB aex
  dsimp only
  rw [if_neg h0, litB_n hk6, if_pos (by omega), show (2 * k + 3) / 2 - 1 = k by omega]
theorem en_baloadL {k : Nat} {j : Int32} (hE : mtab[mi]? = some E) (hd : decode E.2.1 pc = .ok (.baload, 1)) (hk6 : k < 17) (hj : inb j (lenJ.getD k 0)) : Ev d mi pc ls (.int j :: litB k :: t) h Q = Ev d mi (pc + 1) ls (.int ((bytJ.getD k []).getD j.toNatClampNeg 0) :: t) h Q := by
  refine en_x hE hd (Or.inl rfl) ?_
  unfold litB aex
  dsimp only
  rw [litB_n hk6, show (2 * k + 3) / 2 - 1 = k by omega, if_pos ⟨by omega, by omega, by omega, hj⟩]
theorem en_staticN {i kd tm n : Nat} {Et : MI} {args rest : List Value} (hE : mtab[mi]? = some E) (hd : decode E.2.1 pc = .ok (.invokestatic i, 3)) (hm : ml E.2.2.2.2.1 i = some (kd, tm)) (hkd : kd = 0 ∨ kd = 1) (hEt : mtab[tm]? = some Et) (hn : npar Et = n) (h1 : n ≤ st.length) (h2 : ((st.drop n).map fun v => v.category).sum ≤ 8) (h3 : (st.take n).reverse = args) (h4 : st.drop n = rest) (hh : E.2.2.2.2.2 = []) : Ev (d + 1) mi pc ls st h Q = EvM d tm args h (konN (d + 1) mi (pc + 3) ls rest Q) := (en_static hE hd hm hkd hEt hn h1 h2 h3 h4).trans (by rw [kon_eq hE hh])
theorem en_virtualV {i kd tm n c : Nat} {Et : MI} {args rest : List Value} {v : Value} (hE : mtab[mi]? = some E) (hd : decode E.2.1 pc = .ok (.invokevirtual i, 3)) (hm : ml E.2.2.2.2.1 i = some (kd, tm)) (hkd : kd = 2 ∨ kd = 3) (hEt : mtab[tm]? = some Et) (hn : npar Et = n) (hc : Et.2.2.2.2.1 = c) (h0 : st[n]? = some v) (h1 : n + 1 ≤ st.length) (h2 : ((st.drop (n + 1)).map fun v => v.category).sum ≤ 8) (h3 : (st.take (n + 1)).reverse = args) (h4 : st.drop (n + 1) = rest) (hh : E.2.2.2.2.2 = []) : Ev (d + 1) mi pc ls st h Q = (recv h c (some v) = true ∧ EvM d tm args h (konN (d + 1) mi (pc + 3) ls rest Q)) := (en_virtual hE hd hm hkd hEt hn h0 h1 h2 h3 h4).trans (by rw [kon_eq hE hh, hc])
theorem en_virtualG {i kd tm n c a : Nat} {Et : MI} {args rest : List Value} (hE : mtab[mi]? = some E) (hd : decode E.2.1 pc = .ok (.invokevirtual i, 3)) (hm : ml E.2.2.2.2.1 i = some (kd, tm)) (hkd : kd = 2 ∨ kd = 3) (hEt : mtab[tm]? = some Et) (hn : npar Et = n) (hc : Et.2.2.2.2.1 = c) (hc7 : c < 12) (h0 : st[n]? = some (.ref a)) (h1 : n + 1 ≤ st.length) (h2 : ((st.drop (n + 1)).map fun v => v.category).sum ≤ 8) (h3 : (st.take (n + 1)).reverse = args) (h4 : st.drop (n + 1) = rest) : Ev (d + 1) mi pc ls st h Q = (hk h a = kc c ∧ EvM d tm args h (konG (d + 1) mi pc ls rest Q)) := (en_virtual hE hd hm hkd hEt hn h0 h1 h2 h3 h4).trans (by rw [hc, recv_ref hc7])
theorem en_virtualN {i kd tm n c a : Nat} {Et : MI} {args rest : List Value} (hE : mtab[mi]? = some E) (hd : decode E.2.1 pc = .ok (.invokevirtual i, 3)) (hm : ml E.2.2.2.2.1 i = some (kd, tm)) (hkd : kd = 2 ∨ kd = 3) (hEt : mtab[tm]? = some Et) (hn : npar Et = n) (hc : Et.2.2.2.2.1 = c) (hc7 : c < 12) (h0 : st[n]? = some (.ref a)) (h1 : n + 1 ≤ st.length) (h2 : ((st.drop (n + 1)).map fun v => v.category).sum ≤ 8) (h3 : (st.take (n + 1)).reverse = args) (h4 : st.drop (n + 1) = rest) (hh : E.2.2.2.2.2 = []) : Ev (d + 1) mi pc ls st h Q = (hk h a = kc c ∧ EvM d tm args h (konN (d + 1) mi (pc + 3) ls rest Q)) := (en_virtualG hE hd hm hkd hEt hn hc hc7 h0 h1 h2 h3 h4).trans (by rw [kon_eq hE hh])
theorem en_specialV {i kd tm n c : Nat} {Et : MI} {args rest : List Value} {v : Value} (hE : mtab[mi]? = some E) (hd : decode E.2.1 pc = .ok (.invokespecial i, 3)) (hm : ml E.2.2.2.2.1 i = some (kd, tm)) (hkd : kd = 4 ∨ kd = 5) (hEt : mtab[tm]? = some Et) (hn : npar Et = n) (hc : Et.2.2.2.2.1 = c) (h0 : st[n]? = some v) (h1 : n + 1 ≤ st.length) (h2 : ((st.drop (n + 1)).map fun v => v.category).sum ≤ 8) (h3 : (st.take (n + 1)).reverse = args) (h4 : st.drop (n + 1) = rest) (hh : E.2.2.2.2.2 = []) : Ev (d + 1) mi pc ls st h Q = (recv h c (some v) = true ∧ EvM d tm args h (konN (d + 1) mi (pc + 3) ls rest Q)) := (en_special hE hd hm hkd hEt hn h0 h1 h2 h3 h4).trans (by rw [kon_eq hE hh, hc])
theorem en_specialG {i kd tm n c a : Nat} {Et : MI} {args rest : List Value} (hE : mtab[mi]? = some E) (hd : decode E.2.1 pc = .ok (.invokespecial i, 3)) (hm : ml E.2.2.2.2.1 i = some (kd, tm)) (hkd : kd = 4 ∨ kd = 5) (hEt : mtab[tm]? = some Et) (hn : npar Et = n) (hc : Et.2.2.2.2.1 = c) (hc7 : c < 12) (h0 : st[n]? = some (.ref a)) (h1 : n + 1 ≤ st.length) (h2 : ((st.drop (n + 1)).map fun v => v.category).sum ≤ 8) (h3 : (st.take (n + 1)).reverse = args) (h4 : st.drop (n + 1) = rest) : Ev (d + 1) mi pc ls st h Q = (hk h a = kc c ∧ EvM d tm args h (konG (d + 1) mi pc ls rest Q)) := (en_special hE hd hm hkd hEt hn h0 h1 h2 h3 h4).trans (by rw [hc, recv_ref hc7])
theorem en_specialN {i kd tm n c a : Nat} {Et : MI} {args rest : List Value} (hE : mtab[mi]? = some E) (hd : decode E.2.1 pc = .ok (.invokespecial i, 3)) (hm : ml E.2.2.2.2.1 i = some (kd, tm)) (hkd : kd = 4 ∨ kd = 5) (hEt : mtab[tm]? = some Et) (hn : npar Et = n) (hc : Et.2.2.2.2.1 = c) (hc7 : c < 12) (h0 : st[n]? = some (.ref a)) (h1 : n + 1 ≤ st.length) (h2 : ((st.drop (n + 1)).map fun v => v.category).sum ≤ 8) (h3 : (st.take (n + 1)).reverse = args) (h4 : st.drop (n + 1) = rest) (hh : E.2.2.2.2.2 = []) : Ev (d + 1) mi pc ls st h Q = (hk h a = kc c ∧ EvM d tm args h (konN (d + 1) mi (pc + 3) ls rest Q)) := (en_specialG hE hd hm hkd hEt hn hc hc7 h0 h1 h2 h3 h4).trans (by rw [kon_eq hE hh])
theorem en_virtualU {i tm n a : Nat} {Et : MI} {args rest : List Value} (hE : mtab[mi]? = some E) (hd : decode E.2.1 pc = .ok (.invokevirtual i, 3)) (hm : ml E.2.2.2.2.1 i = some (10, tm)) (hEt : mtab[tm]? = some Et) (hn : npar Et = n) (h0 : st[n]? = some (.ref a)) (h1 : n + 1 ≤ st.length) (h2 : ((st.drop (n + 1)).map fun v => v.category).sum ≤ 8) (h3 : (st.take (n + 1)).reverse = args) (h4 : st.drop (n + 1) = rest) (hh : E.2.2.2.2.2 = []) : Ev (d + 1) mi pc ls st h Q = (hk h a = 21 ∧ EvM d tm args h (konN (d + 1) mi (pc + 3) ls rest Q)) := by
  obtain ⟨w, s, hf⟩ := ml_look hm
  subst hn
  have hx : aex E (d + 1) pc ls st h (.invokevirtual i) = if hk h a = 21 then acall tm (npar Et + 1) st else none := by
    unfold aex
    dsimp only
    rw [hf]
    show (match mtab[tm]? with | some Et => if recvU h st[npar Et]? = true then acall tm (npar Et + 1) st else none | none => none) = _
    rw [hEt]
    dsimp only
    rw [h0]
    show (if decide (hk h a = 21) = true then _ else _) = _
    by_cases hq : hk h a = 21
    · rw [if_pos hq, if_pos (decide_eq_true hq)]
    · rw [if_neg hq, if_neg (fun z => hq (of_decide_eq_true z))]
  rw [← kon_eq hE hh]
  by_cases hq : hk h a = 21
  · rw [eq_true hq, true_and]
    exact ev_cl ((as_eq hE hd (Or.inl rfl)).trans (hx.trans ((if_pos hq).trans (acall_of h1 h2 h3 h4))))
  · rw [eq_false hq, false_and]
    exact ev_no ((as_eq hE hd (Or.inl rfl)).trans (hx.trans (if_neg hq)))
theorem en_specialU {i tm n a : Nat} {Et : MI} {args rest : List Value} (hE : mtab[mi]? = some E) (hd : decode E.2.1 pc = .ok (.invokespecial i, 3)) (hm : ml E.2.2.2.2.1 i = some (11, tm)) (hEt : mtab[tm]? = some Et) (hn : npar Et = n) (h0 : st[n]? = some (.ref a)) (h1 : n + 1 ≤ st.length) (h2 : ((st.drop (n + 1)).map fun v => v.category).sum ≤ 8) (h3 : (st.take (n + 1)).reverse = args) (h4 : st.drop (n + 1) = rest) (hh : E.2.2.2.2.2 = []) : Ev (d + 1) mi pc ls st h Q = (hk h a = 21 ∧ EvM d tm args h (konN (d + 1) mi (pc + 3) ls rest Q)) := by
  obtain ⟨w, s, hf⟩ := ml_look hm
  subst hn
  have hx : aex E (d + 1) pc ls st h (.invokespecial i) = if hk h a = 21 then acall tm (npar Et + 1) st else none := by
    unfold aex
    dsimp only
    rw [hf]
    show (match mtab[tm]? with | some Et => if recvU h st[npar Et]? = true then acall tm (npar Et + 1) st else none | none => none) = _
    rw [hEt]
    dsimp only
    rw [h0]
    show (if decide (hk h a = 21) = true then _ else _) = _
    by_cases hq : hk h a = 21
    · rw [if_pos hq, if_pos (decide_eq_true hq)]
    · rw [if_neg hq, if_neg (fun z => hq (of_decide_eq_true z))]
  rw [← kon_eq hE hh]
  by_cases hq : hk h a = 21
  · rw [eq_true hq, true_and]
    exact ev_cl ((as_eq hE hd (Or.inl rfl)).trans (hx.trans ((if_pos hq).trans (acall_of h1 h2 h3 h4))))
  · rw [eq_false hq, false_and]
    exact ev_no ((as_eq hE hd (Or.inl rfl)).trans (hx.trans (if_neg hq)))
theorem en_special15 {i kd tm n a : Nat} {Et : MI} {args rest : List Value} (hE : mtab[mi]? = some E) (hd : decode E.2.1 pc = .ok (.invokespecial i, 3)) (hm : ml E.2.2.2.2.1 i = some (kd, tm)) (hkd : kd = 4 ∨ kd = 5) (hEt : mtab[tm]? = some Et) (hn : npar Et = n) (hc : Et.2.2.2.2.1 = 15) (h0 : st[n]? = some (.ref a)) (h1 : n + 1 ≤ st.length) (h2 : ((st.drop (n + 1)).map fun v => v.category).sum ≤ 8) (h3 : (st.take (n + 1)).reverse = args) (h4 : st.drop (n + 1) = rest) (hh : E.2.2.2.2.2 = []) : Ev (d + 1) mi pc ls st h Q = (hk h a = 21 ∧ EvM d tm args h (konN (d + 1) mi (pc + 3) ls rest Q)) := (en_special hE hd hm hkd hEt hn h0 h1 h2 h3 h4).trans (by rw [kon_eq hE hh, hc, recv_15])
theorem en_maxL {i : Nat} {x y : Int64} (hE : mtab[mi]? = some E) (hd : decode E.2.1 pc = .ok (.invokestatic i, 3)) (hm : (ml E.2.2.2.2.1 i).map (·.1) = some 13) (h2 : t.length ≤ 4) : Ev (d + 1) mi pc ls (.long y :: .long x :: t) h Q = Ev (d + 1) mi (pc + 3) ls (.long (if y < x then x else y) :: t) h Q := by
  obtain ⟨w, tm, s, hf⟩ := ml_fst hm
  refine en_x hE hd (Or.inl rfl) ?_
  unfold aex
  dsimp only
  rw [if_neg (Nat.succ_ne_zero d), hf]
  exact if_pos h2
theorem en_minL {i : Nat} {x y : Int64} (hE : mtab[mi]? = some E) (hd : decode E.2.1 pc = .ok (.invokestatic i, 3)) (hm : (ml E.2.2.2.2.1 i).map (·.1) = some 14) (h2 : t.length ≤ 4) : Ev (d + 1) mi pc ls (.long y :: .long x :: t) h Q = Ev (d + 1) mi (pc + 3) ls (.long (if y < x then y else x) :: t) h Q := by
  obtain ⟨w, tm, s, hf⟩ := ml_fst hm
  refine en_x hE hd (Or.inl rfl) ?_
  unfold aex
  dsimp only
  rw [if_neg (Nat.succ_ne_zero d), hf]
  exact if_pos h2
theorem en_bcopy {i a b : Nat} {sp dp n : Int32} (hE : mtab[mi]? = some E) (hd : decode E.2.1 pc = .ok (.invokestatic i, 3)) (hm : (ml E.2.2.2.2.1 i).map (·.1) = some 9) (h2 : t.length ≤ 4) (hk1 : hk h a = 11) : Ev (d + 1) mi pc ls (.int n :: .int dp :: .ref b :: .int sp :: .ref a :: t) h Q = ((hk h b = 11 ∧ ¬ sp < 0 ∧ ¬ dp < 0 ∧ ¬ n < 0 ∧ sp.toNatClampNeg + n.toNatClampNeg ≤ hl h a ∧ dp.toNatClampNeg + n.toNatClampNeg ≤ hl h b ∧ byOK (hA h a) sp.toNatClampNeg n.toNatClampNeg) ∧ Ev (d + 1) mi (pc + 3) ls t (wA h b (va_cpy (hA h a) (hA h b) sp.toNatClampNeg dp.toNatClampNeg n.toNatClampNeg)) Q) := by
  obtain ⟨w, tm, s, hf⟩ := ml_fst hm
  have hx : aex E (d + 1) pc ls (.int n :: .int dp :: .ref b :: .int sp :: .ref a :: t) h (.invokestatic i) = if hk h b = 11 ∧ ¬ sp < 0 ∧ ¬ dp < 0 ∧ ¬ n < 0 ∧ sp.toNatClampNeg + n.toNatClampNeg ≤ hl h a ∧ dp.toNatClampNeg + n.toNatClampNeg ≤ hl h b ∧ byOK (hA h a) sp.toNatClampNeg n.toNatClampNeg then nx (pc + 3) ls t (wA h b (va_cpy (hA h a) (hA h b) sp.toNatClampNeg dp.toNatClampNeg n.toNatClampNeg)) else none := by
    unfold aex
    dsimp only
    rw [if_neg (Nat.succ_ne_zero d), hf]
    refine (if_neg (fun z => by have := z.2.2.2.1; omega)).trans ?_
    by_cases hq : hk h b = 11 ∧ ¬ sp < 0 ∧ ¬ dp < 0 ∧ ¬ n < 0 ∧ sp.toNatClampNeg + n.toNatClampNeg ≤ hl h a ∧ dp.toNatClampNeg + n.toNatClampNeg ≤ hl h b ∧ byOK (hA h a) sp.toNatClampNeg n.toNatClampNeg
    · exact (if_pos ⟨h2, hk1, hq⟩).trans (if_pos hq).symm
    · exact (if_neg (fun z => hq z.2.2)).trans (if_neg hq).symm
  by_cases hq : hk h b = 11 ∧ ¬ sp < 0 ∧ ¬ dp < 0 ∧ ¬ n < 0 ∧ sp.toNatClampNeg + n.toNatClampNeg ≤ hl h a ∧ dp.toNatClampNeg + n.toNatClampNeg ≤ hl h b ∧ byOK (hA h a) sp.toNatClampNeg n.toNatClampNeg
  · rw [eq_true hq, true_and]
    exact en_x hE hd (Or.inl rfl) (hx.trans (if_pos hq))
  · rw [eq_false hq, false_and]
    exact ev_no ((as_eq hE hd (Or.inl rfl)).trans (hx.trans (if_neg hq)))
theorem en_lcopy {i k b : Nat} {sp dp n : Int32} (hE : mtab[mi]? = some E) (hd : decode E.2.1 pc = .ok (.invokestatic i, 3)) (hm : (ml E.2.2.2.2.1 i).map (·.1) = some 9) (h2 : t.length ≤ 4) (hk6 : k < 17) : Ev (d + 1) mi pc ls (.int n :: .int dp :: .ref b :: .int sp :: litB k :: t) h Q = ((hk h b = 11 ∧ ¬ sp < 0 ∧ ¬ dp < 0 ∧ ¬ n < 0 ∧ sp.toNatClampNeg + n.toNatClampNeg ≤ lenJ.getD k 0 ∧ dp.toNatClampNeg + n.toNatClampNeg ≤ hl h b ∧ byOK (fun j => (bytJ.getD k []).getD j 0) sp.toNatClampNeg n.toNatClampNeg) ∧ Ev (d + 1) mi (pc + 3) ls t (wA h b (va_cpy (fun j => (bytJ.getD k []).getD j 0) (hA h b) sp.toNatClampNeg dp.toNatClampNeg n.toNatClampNeg)) Q) := by
  obtain ⟨w, tm, s, hf⟩ := ml_fst hm
  have e1 : (UInt32.ofNat (2 * k + 3)).toNat = 2 * k + 3 := by
    rw [UInt32.toNat_ofNat']
    omega
  have e2 : (2 * k + 3) / 2 - 1 = k := by omega
  have hx : aex E (d + 1) pc ls (.int n :: .int dp :: .ref b :: .int sp :: litB k :: t) h (.invokestatic i) = if hk h b = 11 ∧ ¬ sp < 0 ∧ ¬ dp < 0 ∧ ¬ n < 0 ∧ sp.toNatClampNeg + n.toNatClampNeg ≤ lenJ.getD k 0 ∧ dp.toNatClampNeg + n.toNatClampNeg ≤ hl h b ∧ byOK (fun j => (bytJ.getD k []).getD j 0) sp.toNatClampNeg n.toNatClampNeg then nx (pc + 3) ls t (wA h b (va_cpy (fun j => (bytJ.getD k []).getD j 0) (hA h b) sp.toNatClampNeg dp.toNatClampNeg n.toNatClampNeg)) else none := by
    unfold aex litB
    dsimp only
    rw [if_neg (Nat.succ_ne_zero d), hf]
    show (if t.length ≤ 4 ∧ ((UInt32.ofNat (2 * k + 3)).toNat % 2 = 1 ∧ 3 ≤ (UInt32.ofNat (2 * k + 3)).toNat ∧ (UInt32.ofNat (2 * k + 3)).toNat < 37) ∧ hk h b = 11 ∧ ¬ sp < 0 ∧ ¬ dp < 0 ∧ ¬ n < 0 ∧ sp.toNatClampNeg + n.toNatClampNeg ≤ lenJ.getD ((UInt32.ofNat (2 * k + 3)).toNat / 2 - 1) 0 ∧ dp.toNatClampNeg + n.toNatClampNeg ≤ hl h b ∧ byOK (fun j => (bytJ.getD ((UInt32.ofNat (2 * k + 3)).toNat / 2 - 1) []).getD j 0) sp.toNatClampNeg n.toNatClampNeg then nx (pc + 3) ls t (wA h b (va_cpy (fun j => (bytJ.getD ((UInt32.ofNat (2 * k + 3)).toNat / 2 - 1) []).getD j 0) (hA h b) sp.toNatClampNeg dp.toNatClampNeg n.toNatClampNeg)) else none) = _
    rw [e1, e2]
    by_cases hq : hk h b = 11 ∧ ¬ sp < 0 ∧ ¬ dp < 0 ∧ ¬ n < 0 ∧ sp.toNatClampNeg + n.toNatClampNeg ≤ lenJ.getD k 0 ∧ dp.toNatClampNeg + n.toNatClampNeg ≤ hl h b ∧ byOK (fun j => (bytJ.getD k []).getD j 0) sp.toNatClampNeg n.toNatClampNeg
    · rw [if_pos hq, if_pos ⟨h2, ⟨by omega, by omega, by omega⟩, hq⟩]
    · rw [if_neg hq, if_neg (fun z => hq z.2.2)]
  by_cases hq : hk h b = 11 ∧ ¬ sp < 0 ∧ ¬ dp < 0 ∧ ¬ n < 0 ∧ sp.toNatClampNeg + n.toNatClampNeg ≤ lenJ.getD k 0 ∧ dp.toNatClampNeg + n.toNatClampNeg ≤ hl h b ∧ byOK (fun j => (bytJ.getD k []).getD j 0) sp.toNatClampNeg n.toNatClampNeg
  · rw [eq_true hq, true_and]
    exact en_x hE hd (Or.inl rfl) (hx.trans (if_pos hq))
  · rw [eq_false hq, false_and]
    exact ev_no ((as_eq hE hd (Or.inl rfl)).trans (hx.trans (if_neg hq)))
theorem en_cloneI {i a : Nat} (hE : mtab[mi]? = some E) (hd : decode E.2.1 pc = .ok (.invokevirtual i, 3)) (hm : (ml E.2.2.2.2.1 i).map (·.1) = some 15) (h2 : t.length ≤ 4) : Ev (d + 1) mi pc ls (.ref a :: t) h Q = (hk h a = 10 ∧ Ev (d + 1) mi (pc + 3) ls (.ref (hN h) :: t) (wA (alA h 10 (hl h a)) (hN h) (hA h a)) Q) := by
  obtain ⟨w, tm, s, hf⟩ := ml_fst hm
  have hx : aex E (d + 1) pc ls (.ref a :: t) h (.invokevirtual i) = if t.length ≤ 4 ∧ hk h a = 10 then nx (pc + 3) ls (.ref (hN h) :: t) (wA (alA h 10 (hl h a)) (hN h) (hA h a)) else none := by
    unfold aex
    dsimp only
    rw [hf]
    exact if_neg (Nat.succ_ne_zero d)
  by_cases hq : hk h a = 10
  · rw [eq_true hq, true_and]
    exact en_x hE hd (Or.inl rfl) (hx.trans (if_pos ⟨h2, hq⟩))
  · rw [eq_false hq, false_and]
    exact ev_no ((as_eq hE hd (Or.inl rfl)).trans (hx.trans (if_neg (fun z => hq z.2))))
theorem en_cloneB {i a : Nat} (hE : mtab[mi]? = some E) (hd : decode E.2.1 pc = .ok (.invokevirtual i, 3)) (hm : (ml E.2.2.2.2.1 i).map (·.1) = some 16) (h2 : t.length ≤ 4) : Ev (d + 1) mi pc ls (.ref a :: t) h Q = ((hk h a = 11 ∧ byOK (hA h a) 0 (hl h a)) ∧ Ev (d + 1) mi (pc + 3) ls (.ref (hN h) :: t) (wA (alA h 11 (hl h a)) (hN h) (hA h a)) Q) := by
  obtain ⟨w, tm, s, hf⟩ := ml_fst hm
  have hx : aex E (d + 1) pc ls (.ref a :: t) h (.invokevirtual i) = if t.length ≤ 4 ∧ hk h a = 11 ∧ byOK (hA h a) 0 (hl h a) then nx (pc + 3) ls (.ref (hN h) :: t) (wA (alA h 11 (hl h a)) (hN h) (hA h a)) else none := by
    unfold aex
    dsimp only
    rw [hf]
    exact if_neg (Nat.succ_ne_zero d)
  by_cases hq : hk h a = 11 ∧ byOK (hA h a) 0 (hl h a)
  · rw [eq_true hq, true_and]
    exact en_x hE hd (Or.inl rfl) (hx.trans (if_pos ⟨h2, hq⟩))
  · rw [eq_false hq, false_and]
    exact ev_no ((as_eq hE hd (Or.inl rfl)).trans (hx.trans (if_neg (fun z => hq z.2))))
end EV
