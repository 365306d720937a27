/-! ES: a run of one method that stops in front of its last goto, with no value on its stack -/
def lrun : Nat → Nat → Nat → Nat → aLS → List Value → AH → Option (aLS × AH)
  | 0, _, _, _, _, _, _ => none
  | n + 1, d, mi, pc, ls, st, h => if pc = 1126 then (if st.isEmpty = true then some (ls, h) else none) else match astep d mi pc ls st h with
    | none => none
    | some (.inl (pc', ls', st', h')) => lrun n d mi pc' ls' st' h'
    | some (.inr (.inl _)) => none
    | some (.inr (.inr (.inl (t, args, rest)))) => match d with
      | 0 => none
      | d1 + 1 => match mtab[t]? with
        | none => none
        | some Et => if (aenl args).length ≤ Et.2.2.1 then (match arun n d1 t 0 (aent args Et.2.2.1) [] h with
          | some (.inl v, h1) => lrun n (d1 + 1) mi (pc + 3) ls (v.toList ++ rest) h1
          | _ => none) else none
    | some (.inr (.inr (.inr _))) => none
def Es (d mi pc : Nat) (ls : aLS) (st : List Value) (h : AH) (Q : aLS → AH → Prop) : Prop := ∃ n ls' h', lrun n d mi pc ls st h = some (ls', h') ∧ Q ls' h'
/-- how it goes on behind a call -/
def ksN (d mi pc : Nat) (ls : aLS) (rest : List Value) (Q : aLS → AH → Prop) : AO → AH → Prop
  | .inl v, h1 => Es d mi pc ls (v.toList ++ rest) h1 Q
  | .inr _, _ => False
theorem ksN_v {d mi pc : Nat} {ls : aLS} {rest : List Value} {Q : aLS → AH → Prop} {v : Value} {g : AH} : ksN d mi pc ls rest Q (.inl (some v)) g = Es d mi pc ls (v :: rest) g Q := rfl
theorem ksN_n {d mi pc : Nat} {ls : aLS} {rest : List Value} {Q : aLS → AH → Prop} {g : AH} : ksN d mi pc ls rest Q (.inl none) g = Es d mi pc ls rest g Q := rfl
theorem lrun_more : ∀ (n d mi pc : Nat) (ls : aLS) (st : List Value) (h : AH) (r : aLS × AH), lrun n d mi pc ls st h = some r → ∀ m, n ≤ m → lrun m d mi pc ls st h = some r
  | 0, d, mi, pc, ls, st, h, r, k, _, _ => by cases k
  | n + 1, d, mi, pc, ls, st, h, r, k, 0, hm => absurd hm (by omega)
  | n + 1, d, mi, pc, ls, st, h, r, k, m + 1, hm => by
    have hm' : n ≤ m := by omega
    rw [lrun] at k ⊢
    by_cases hp : pc = 1126
    · rw [if_pos hp] at k ⊢
      exact k
    rw [if_neg hp] at k ⊢
    generalize astep d mi pc ls st h = a at k ⊢
    match a, k with
    | none, k => cases k
    | some (.inl (pc', ls', st', h')), k => exact lrun_more n _ _ _ _ _ _ _ k m hm'
    | some (.inr (.inl v)), k => cases k
    | some (.inr (.inr (.inr e))), k => cases k
    | some (.inr (.inr (.inl (t, args, rest)))), k =>
      match d, k with
      | 0, k => cases k
      | d1 + 1, k =>
        dsimp only at k ⊢
        generalize mtab[t]? = b at k ⊢
        match b, k with
        | none, k => cases k
        | some Et, k =>
          dsimp only at k ⊢
          by_cases hL : (aenl args).length ≤ Et.2.2.1
          · rw [if_pos hL] at k ⊢
            cases hc : arun n d1 t 0 (aent args Et.2.2.1) [] h with
            | none => rw [hc] at k; cases k
            | some r1 =>
              rw [arun_more n _ _ _ _ _ _ _ hc m hm']
              rw [hc] at k
              obtain ⟨o1, h1⟩ := r1
              cases o1 with
              | inl v => exact lrun_more n _ _ _ _ _ _ _ k m hm'
              | inr e => cases k
          · rw [if_neg hL] at k
            cases k
section ES
variable {d mi pc : Nat} {ls : aLS} {st t : List Value} {h : AH} {Q : aLS → AH → Prop} {E : MI}
theorem es_stop : Es d mi 1126 ls [] h Q = Q ls h := by
  refine propext ⟨fun ⟨n, o, g, h1, h2⟩ => ?_, fun z => ⟨1, ls, h, by rw [lrun, if_pos rfl, if_pos List.isEmpty_nil], z⟩⟩
  cases n with
  | zero => cases h1
  | succ n => rw [lrun, if_pos rfl, if_pos List.isEmpty_nil] at h1; cases h1; exact h2
theorem es_nx (hp : ¬ pc = 1126) {pc' : Nat} {ls' : aLS} {st' : List Value} {h' : AH} (hs : astep d mi pc ls st h = some (.inl (pc', ls', st', h'))) : Es d mi pc ls st h Q = Es d mi pc' ls' st' h' Q := by
  refine propext ⟨fun ⟨n, o, g, h1, h2⟩ => ?_, fun ⟨n, o, g, h1, h2⟩ => ⟨n + 1, o, g, ?_, h2⟩⟩
  · cases n with
    | zero => cases h1
    | succ n => rw [lrun, if_neg hp, hs] at h1; exact ⟨n, o, g, h1, h2⟩
  · rw [lrun, if_neg hp, hs]; exact h1
theorem es_no (hp : ¬ pc = 1126) (hs : astep d mi pc ls st h = none) : Es d mi pc ls st h Q = False := by
  refine propext ⟨fun ⟨n, o, g, h1, h2⟩ => ?_, fun z => z.elim⟩
  cases n with
  | zero => cases h1
  | succ n => rw [lrun, if_neg hp, hs] at h1; cases h1
theorem es_cl (hp : ¬ pc = 1126) {tm : Nat} {args rest : List Value} (hs : astep (d + 1) mi pc ls st h = some (.inr (.inr (.inl (tm, args, rest))))) : Es (d + 1) mi pc ls st h Q = EvM d tm args h (ksN (d + 1) mi (pc + 3) ls rest Q) := by
  refine propext ⟨fun ⟨n, o, g, h1, h2⟩ => ?_, fun ⟨Et, e1, e2, n, o, g, h1, h2⟩ => ?_⟩
  · cases n with
    | zero => cases h1
    | succ n =>
      rw [lrun, if_neg hp, hs] at h1
      dsimp only at h1
      cases hE : mtab[tm]? with
      | none => rw [hE] at h1; cases h1
      | some Et =>
        rw [hE] at h1
        dsimp only at h1
        by_cases hL : (aenl args).length ≤ Et.2.2.1
        · rw [if_pos hL] at h1
          refine ⟨Et, hE, hL, ?_⟩
          cases hc : arun n d tm 0 (aent args Et.2.2.1) [] h with
          | none => rw [hc] at h1; cases h1
          | some r1 =>
            obtain ⟨o1, g1⟩ := r1
            refine ⟨n, o1, g1, hc, ?_⟩
            rw [hc] at h1
            cases o1 with
            | inl v => exact ⟨n, o, g, h1, h2⟩
            | inr e => cases h1
        · rw [if_neg hL] at h1
          cases h1
  · cases o with
    | inl v =>
      obtain ⟨n2, o2, g2, k1, k2⟩ := h2
      refine ⟨max n n2 + 1, o2, g2, ?_, k2⟩
      rw [lrun, if_neg hp, hs]
      dsimp only
      rw [e1]
      dsimp only
      rw [if_pos e2, arun_more _ _ _ _ _ _ _ _ h1 _ (Nat.le_max_left n n2)]
      exact lrun_more _ _ _ _ _ _ _ _ k1 _ (Nat.le_max_right n n2)
    | inr e => exact h2.elim
theorem es_x (hp : ¬ pc = 1126) {i : Instr} {len pc' : Nat} {ls' : aLS} {st' : List Value} {h' : AH} (hE : mtab[mi]? = some E) (hd : decode E.2.1 pc = .ok (i, len)) (hl : len = ilen i ∨ ilen i = 100) (hx : aex E d pc ls st h i = nx pc' ls' st' h') : Es d mi pc ls st h Q = Es d mi pc' ls' st' h' Q := es_nx hp ((as_eq hE hd hl).trans hx)
theorem es_iconst (hp : ¬ pc = 1126) {n : Int} {c : Int32} (hE : mtab[mi]? = some E) (hd : decode E.2.1 pc = .ok (.iconst n, 1)) (hc : Int32.ofInt n = c) : Es d mi pc ls st h Q = Es d mi (pc + 1) ls (.int c :: st) h Q := es_x hp hE hd (Or.inl rfl) (by subst hc; rfl)
theorem es_bipush (hp : ¬ pc = 1126) {n : Int} {c : Int32} (hE : mtab[mi]? = some E) (hd : decode E.2.1 pc = .ok (.bipush n, 2)) (hc : (Int8.ofInt n).toInt32 = c) : Es d mi pc ls st h Q = Es d mi (pc + 2) ls (.int c :: st) h Q := es_x hp hE hd (Or.inl rfl) (by subst hc; rfl)
theorem es_sipush (hp : ¬ pc = 1126) {n : Int} {c : Int32} (hE : mtab[mi]? = some E) (hd : decode E.2.1 pc = .ok (.sipush n, 3)) (hc : (Int16.ofInt n).toInt32 = c) : Es d mi pc ls st h Q = Es d mi (pc + 3) ls (.int c :: st) h Q := es_x hp hE hd (Or.inl rfl) (by subst hc; rfl)
theorem es_iload_n (hp : ¬ pc = 1126) {n : Fin 4} {x : Int32} (hE : mtab[mi]? = some E) (hd : decode E.2.1 pc = .ok (.iload_n n, 1)) (hl : ls[(n : Nat)]? = some (some (.int x))) : Es d mi pc ls st h Q = Es d mi (pc + 1) ls (.int x :: st) h Q := es_x hp hE hd (Or.inl rfl) (by show (match ls[(n : Nat)]? with | some (some (.int x)) => nx (pc + 1) ls (.int x :: st) h | _ => none) = _; rw [hl])
theorem es_iload (hp : ¬ pc = 1126) {n : Nat} {x : Int32} (hE : mtab[mi]? = some E) (hd : decode E.2.1 pc = .ok (.iload n, 2)) (hl : ls[n]? = some (some (.int x))) : Es d mi pc ls st h Q = Es d mi (pc + 2) ls (.int x :: st) h Q := es_x hp hE hd (Or.inl rfl) (by show (match ls[n]? with | some (some (.int x)) => nx (pc + 2) ls (.int x :: st) h | _ => none) = _; rw [hl])
theorem es_aload_n (hp : ¬ pc = 1126) {n : Fin 4} {x : Nat} (hE : mtab[mi]? = some E) (hd : decode E.2.1 pc = .ok (.aload_n n, 1)) (hl : ls[(n : Nat)]? = some (some (.ref x))) : Es d mi pc ls st h Q = Es d mi (pc + 1) ls (.ref x :: st) h Q := es_x hp hE hd (Or.inl rfl) (by show (match ls[(n : Nat)]? with | some (some x) => if isR x = true then nx (pc + 1) ls (x :: st) h else none | _ => none) = _; rw [hl]; rfl)
theorem es_aload_nV (hp : ¬ pc = 1126) {n : Fin 4} {x : Value} (hE : mtab[mi]? = some E) (hd : decode E.2.1 pc = .ok (.aload_n n, 1)) (hl : ls[(n : Nat)]? = some (some x)) : Es d mi pc ls st h Q = (isR x = true ∧ Es d mi (pc + 1) ls (x :: st) h Q) := by
  by_cases hr : isR x = true
  · rw [eq_true hr, true_and]
    refine es_x hp hE hd (Or.inl rfl) ?_
    show (match ls[(n : Nat)]? with | some (some x) => if isR x = true then nx (pc + 1) ls (x :: st) h else none | _ => none) = _
    rw [hl]
    exact if_pos hr
  · rw [eq_false hr, false_and]
    refine es_no hp ((as_eq hE hd (Or.inl rfl)).trans ?_)
    show (match ls[(n : Nat)]? with | some (some x) => if isR x = true then nx (pc + 1) ls (x :: st) h else none | _ => none) = _
    rw [hl]
    exact if_neg hr
theorem es_aload (hp : ¬ pc = 1126) {n : Nat} {x : Nat} (hE : mtab[mi]? = some E) (hd : decode E.2.1 pc = .ok (.aload n, 2)) (hl : ls[n]? = some (some (.ref x))) : Es d mi pc ls st h Q = Es d mi (pc + 2) ls (.ref x :: st) h Q := es_x hp hE hd (Or.inl rfl) (by show (match ls[n]? with | some (some x) => if isR x = true then nx (pc + 2) ls (x :: st) h else none | _ => none) = _; rw [hl]; rfl)
theorem es_istore_n (hp : ¬ pc = 1126) {n : Fin 4} {x : Int32} {ls2 : aLS} (hE : mtab[mi]? = some E) (hd : decode E.2.1 pc = .ok (.istore_n n, 1)) (hn : (n : Nat) < ls.length) (hl : lst1 ls (n : Nat) (some (.int x)) = ls2) : Es d mi pc ls (.int x :: t) h Q = Es d mi (pc + 1) ls2 t h Q := es_x hp hE hd (Or.inl rfl) (by subst hl; exact if_pos hn)
theorem es_istore (hp : ¬ pc = 1126) {n : Nat} {x : Int32} {ls2 : aLS} (hE : mtab[mi]? = some E) (hd : decode E.2.1 pc = .ok (.istore n, 2)) (hn : n < ls.length) (hl : lst1 ls n (some (.int x)) = ls2) : Es d mi pc ls (.int x :: t) h Q = Es d mi (pc + 2) ls2 t h Q := es_x hp hE hd (Or.inl rfl) (by subst hl; exact if_pos hn)
theorem es_astore_n (hp : ¬ pc = 1126) {n : Fin 4} {x : Nat} {ls2 : aLS} (hE : mtab[mi]? = some E) (hd : decode E.2.1 pc = .ok (.astore_n n, 1)) (hn : (n : Nat) < ls.length) (hl : lst1 ls (n : Nat) (some (.ref x)) = ls2) : Es d mi pc ls (.ref x :: t) h Q = Es d mi (pc + 1) ls2 t h Q := es_x hp hE hd (Or.inl rfl) (by subst hl; exact if_pos ⟨rfl, hn⟩)
theorem es_astore (hp : ¬ pc = 1126) {n : Nat} {x : Nat} {ls2 : aLS} (hE : mtab[mi]? = some E) (hd : decode E.2.1 pc = .ok (.astore n, 2)) (hn : n < ls.length) (hl : lst1 ls n (some (.ref x)) = ls2) : Es d mi pc ls (.ref x :: t) h Q = Es d mi (pc + 2) ls2 t h Q := es_x hp hE hd (Or.inl rfl) (by subst hl; exact if_pos ⟨rfl, hn⟩)
theorem es_iinc (hp : ¬ pc = 1126) {n : Nat} {k : Int} {x c : Int32} {ls2 : aLS} (hE : mtab[mi]? = some E) (hd : decode E.2.1 pc = .ok (.iinc n k, 3)) (hx : ls[n]? = some (some (.int x))) (hc : Int32.ofInt k = c) (hl : lst1 ls n (some (.int (x + c))) = ls2) : Es d mi pc ls st h Q = Es d mi (pc + 3) ls2 st h Q := es_x hp hE hd (Or.inl rfl) (by subst hc; subst hl; show (match ls[n]? with | some (some (.int x)) => nx (pc + 3) (lst1 ls n (some (.int (x + Int32.ofInt k)))) st h | _ => none) = _; rw [hx])
theorem es_iadd (hp : ¬ pc = 1126) {x y : Int32} (hE : mtab[mi]? = some E) (hd : decode E.2.1 pc = .ok (.iadd, 1)) : Es d mi pc ls (.int y :: .int x :: t) h Q = Es d mi (pc + 1) ls (.int (x + y) :: t) h Q := es_x hp hE hd (Or.inl rfl) rfl
theorem es_isub (hp : ¬ pc = 1126) {x y : Int32} (hE : mtab[mi]? = some E) (hd : decode E.2.1 pc = .ok (.isub, 1)) : Es d mi pc ls (.int y :: .int x :: t) h Q = Es d mi (pc + 1) ls (.int (x - y) :: t) h Q := es_x hp hE hd (Or.inl rfl) rfl
theorem es_imul (hp : ¬ pc = 1126) {x y : Int32} (hE : mtab[mi]? = some E) (hd : decode E.2.1 pc = .ok (.imul, 1)) : Es d mi pc ls (.int y :: .int x :: t) h Q = Es d mi (pc + 1) ls (.int (x * y) :: t) h Q := es_x hp hE hd (Or.inl rfl) rfl
theorem es_idiv (hp : ¬ pc = 1126) {x y : Int32} (hE : mtab[mi]? = some E) (hd : decode E.2.1 pc = .ok (.idiv, 1)) : Es d mi pc ls (.int y :: .int x :: t) h Q = ((¬ y = 0) ∧ Es d mi (pc + 1) ls (.int (x / y) :: t) h Q) := by
  by_cases hq : (¬ y = 0)
  · rw [eq_true hq, true_and]
    exact es_x hp hE hd (Or.inl rfl) (if_neg hq)
  · rw [eq_false hq, false_and]
    exact es_no hp ((as_eq hE hd (Or.inl rfl)).trans (if_pos (Decidable.not_not.mp hq)))
theorem es_dup (hp : ¬ pc = 1126) {a : Nat} (hE : mtab[mi]? = some E) (hd : decode E.2.1 pc = .ok (.dup, 1)) : Es d mi pc ls (.ref a :: t) h Q = Es d mi (pc + 1) ls (.ref a :: .ref a :: t) h Q := es_x hp hE hd (Or.inl rfl) rfl
theorem es_goto (hp : ¬ pc = 1126) {off : Int} {g : Nat} (hE : mtab[mi]? = some E) (hd : decode E.2.1 pc = .ok (.goto off, 3)) (hg : tgt? pc off = some g) : Es d mi pc ls st h Q = Es d mi g ls st h Q := es_x hp hE hd (Or.inl rfl) (by show (match tgt? pc off with | some t => nx t ls st h | none => none) = _; rw [hg])
theorem es_if_eq (hp : ¬ pc = 1126) {off : Int} {g : Nat} {x : Int32} (hE : mtab[mi]? = some E) (hd : decode E.2.1 pc = .ok (.ifCond .eq off, 3)) (hg : tgt? pc off = some g) : Es d mi pc ls (.int x :: t) h Q = if x = 0 then Es d mi g ls t h Q else Es d mi (pc + 3) ls t h Q := by
  have hx : aex E d pc ls (.int x :: t) h (.ifCond .eq off) = nx (if cnd1 .eq x = true then g else pc + 3) ls t h := by
    unfold aex
    dsimp only
    rw [hg]
  by_cases hq : x = 0
  · rw [if_pos hq]
    refine (es_x hp hE hd (Or.inl rfl) hx).trans ?_
    rw [if_pos (by simp [cnd1, hq])]
  · rw [if_neg hq]
    refine (es_x hp hE hd (Or.inl rfl) hx).trans ?_
    rw [if_neg (by simp [cnd1, hq])]
theorem es_if_ne (hp : ¬ pc = 1126) {off : Int} {g : Nat} {x : Int32} (hE : mtab[mi]? = some E) (hd : decode E.2.1 pc = .ok (.ifCond .ne off, 3)) (hg : tgt? pc off = some g) : Es d mi pc ls (.int x :: t) h Q = if x = 0 then Es d mi (pc + 3) ls t h Q else Es d mi g ls t h Q := by
  have hx : aex E d pc ls (.int x :: t) h (.ifCond .ne off) = nx (if cnd1 .ne x = true then g else pc + 3) ls t h := by
    unfold aex
    dsimp only
    rw [hg]
  by_cases hq : x = 0
  · rw [if_pos hq]
    refine (es_x hp hE hd (Or.inl rfl) hx).trans ?_
    rw [if_neg (by simp [cnd1, hq])]
  · rw [if_neg hq]
    refine (es_x hp hE hd (Or.inl rfl) hx).trans ?_
    rw [if_pos (by simp [cnd1, hq])]
theorem es_if_lt (hp : ¬ pc = 1126) {off : Int} {g : Nat} {x : Int32} (hE : mtab[mi]? = some E) (hd : decode E.2.1 pc = .ok (.ifCond .lt off, 3)) (hg : tgt? pc off = some g) : Es d mi pc ls (.int x :: t) h Q = if x < 0 then Es d mi g ls t h Q else Es d mi (pc + 3) ls t h Q := by
  have hx : aex E d pc ls (.int x :: t) h (.ifCond .lt off) = nx (if cnd1 .lt x = true then g else pc + 3) ls t h := by
    unfold aex
    dsimp only
    rw [hg]
  by_cases hq : x < 0
  · rw [if_pos hq]
    refine (es_x hp hE hd (Or.inl rfl) hx).trans ?_
    rw [if_pos (by simp [cnd1, hq])]
  · rw [if_neg hq]
    refine (es_x hp hE hd (Or.inl rfl) hx).trans ?_
    rw [if_neg (by simp [cnd1, hq])]
theorem es_if_le (hp : ¬ pc = 1126) {off : Int} {g : Nat} {x : Int32} (hE : mtab[mi]? = some E) (hd : decode E.2.1 pc = .ok (.ifCond .le off, 3)) (hg : tgt? pc off = some g) : Es d mi pc ls (.int x :: t) h Q = if x ≤ 0 then Es d mi g ls t h Q else Es d mi (pc + 3) ls t h Q := by
  have hx : aex E d pc ls (.int x :: t) h (.ifCond .le off) = nx (if cnd1 .le x = true then g else pc + 3) ls t h := by
    unfold aex
    dsimp only
    rw [hg]
  by_cases hq : x ≤ 0
  · rw [if_pos hq]
    refine (es_x hp hE hd (Or.inl rfl) hx).trans ?_
    rw [if_pos (by simp [cnd1, hq])]
  · rw [if_neg hq]
    refine (es_x hp hE hd (Or.inl rfl) hx).trans ?_
    rw [if_neg (by simp [cnd1, hq])]
theorem es_ic_ne (hp : ¬ pc = 1126) {off : Int} {g : Nat} {x y : Int32} (hE : mtab[mi]? = some E) (hd : decode E.2.1 pc = .ok (.if_icmp .ne off, 3)) (hg : tgt? pc off = some g) : Es d mi pc ls (.int y :: .int x :: t) h Q = if x = y then Es d mi (pc + 3) ls t h Q else Es d mi g ls t h Q := by
  have hx : aex E d pc ls (.int y :: .int x :: t) h (.if_icmp .ne off) = nx (if cnd2 .ne x y = true then g else pc + 3) ls t h := by
    unfold aex
    dsimp only
    rw [hg]
  by_cases hq : x = y
  · rw [if_pos hq]
    refine (es_x hp hE hd (Or.inl rfl) hx).trans ?_
    rw [if_neg (by simp [cnd2, hq])]
  · rw [if_neg hq]
    refine (es_x hp hE hd (Or.inl rfl) hx).trans ?_
    rw [if_pos (by simp [cnd2, hq])]
theorem es_ic_ge (hp : ¬ pc = 1126) {off : Int} {g : Nat} {x y : Int32} (hE : mtab[mi]? = some E) (hd : decode E.2.1 pc = .ok (.if_icmp .ge off, 3)) (hg : tgt? pc off = some g) : Es d mi pc ls (.int y :: .int x :: t) h Q = if y ≤ x then Es d mi g ls t h Q else Es d mi (pc + 3) ls t h Q := by
  have hx : aex E d pc ls (.int y :: .int x :: t) h (.if_icmp .ge off) = nx (if cnd2 .ge x y = true then g else pc + 3) ls t h := by
    unfold aex
    dsimp only
    rw [hg]
  by_cases hq : y ≤ x
  · rw [if_pos hq]
    refine (es_x hp hE hd (Or.inl rfl) hx).trans ?_
    rw [if_pos (by simp [cnd2, hq])]
  · rw [if_neg hq]
    refine (es_x hp hE hd (Or.inl rfl) hx).trans ?_
    rw [if_neg (by simp [cnd2, hq])]
theorem es_ic_le (hp : ¬ pc = 1126) {off : Int} {g : Nat} {x y : Int32} (hE : mtab[mi]? = some E) (hd : decode E.2.1 pc = .ok (.if_icmp .le off, 3)) (hg : tgt? pc off = some g) : Es d mi pc ls (.int y :: .int x :: t) h Q = if x ≤ y then Es d mi g ls t h Q else Es d mi (pc + 3) ls t h Q := by
  have hx : aex E d pc ls (.int y :: .int x :: t) h (.if_icmp .le off) = nx (if cnd2 .le x y = true then g else pc + 3) ls t h := by
    unfold aex
    dsimp only
    rw [hg]
  by_cases hq : x ≤ y
  · rw [if_pos hq]
    refine (es_x hp hE hd (Or.inl rfl) hx).trans ?_
    rw [if_pos (by simp [cnd2, hq])]
  · rw [if_neg hq]
    refine (es_x hp hE hd (Or.inl rfl) hx).trans ?_
    rw [if_neg (by simp [cnd2, hq])]
theorem es_getfield (hp : ¬ pc = 1126) {i cj k a : Nat} (hE : mtab[mi]? = some E) (hd : decode E.2.1 pc = .ok (.getfield i, 3)) (hf : fl E.2.2.2.2.1 i = some (cj, k)) : Es d mi pc ls (.ref a :: t) h Q = (hk h a = kc cj ∧ Es d mi (pc + 3) ls (hF h a k :: t) h Q) := by
  obtain ⟨w, b, s, hf⟩ := fl_look hf
  have hx : aex E d pc ls (.ref a :: t) h (.getfield i) = if hk h a = kc cj then nx (pc + 3) ls (hF h a k :: t) h else none := by
    show (match look (E.2.2.2.2.1, i) fldT with | some (_, _, cj, k, _) => if hk h a = kc cj then nx (pc + 3) ls (hF h a k :: t) h else none | none => none) = _
    rw [hf]
  by_cases hq : hk h a = kc cj
  · rw [eq_true hq, true_and]
    exact es_x hp hE hd (Or.inl rfl) (hx.trans (if_pos hq))
  · rw [eq_false hq, false_and]
    exact es_no hp ((as_eq hE hd (Or.inl rfl)).trans (hx.trans (if_neg hq)))
theorem es_iaload (hp : ¬ pc = 1126) {j : Int32} {a : Nat} (hE : mtab[mi]? = some E) (hd : decode E.2.1 pc = .ok (.iaload, 1)) : Es d mi pc ls (.int j :: .ref a :: t) h Q = (hk h a = 10 ∧ inb j (hl h a) ∧ Es d mi (pc + 1) ls (.int (hA h a j.toNatClampNeg) :: t) h Q) := by
  by_cases hq : hk h a = 10 ∧ inb j (hl h a)
  · rw [eq_true hq.1, true_and, eq_true hq.2, true_and]
    exact es_x hp hE hd (Or.inl rfl) (if_pos hq)
  · rw [← and_assoc, eq_false hq, false_and]
    exact es_no hp ((as_eq hE hd (Or.inl rfl)).trans (if_neg hq))
theorem es_ialoadX (hp : ¬ pc = 1126) {j : Int32} (hE : mtab[mi]? = some E) (hd : decode E.2.1 pc = .ok (.iaload, 1)) : Es d mi pc ls (.int j :: scrV :: t) h Q = (True ∧ inb j (hX h).1 ∧ Es d mi (pc + 1) ls (.int ((hX h).2 j.toNatClampNeg) :: t) h Q) := by
  by_cases hq : True ∧ inb j (hX h).1
  · rw [eq_true hq.1, true_and, eq_true hq.2, true_and]
    exact es_x hp hE hd (Or.inl rfl) (if_pos ⟨rfl, hq.2⟩)
  · rw [← and_assoc, eq_false hq, false_and]
    exact es_no hp ((as_eq hE hd (Or.inl rfl)).trans (if_neg (fun z => hq ⟨trivial, z.2⟩)))
theorem es_aaload (hp : ¬ pc = 1126) {j : Int32} {a : Nat} (hE : mtab[mi]? = some E) (hd : decode E.2.1 pc = .ok (.aaload, 1)) : Es d mi pc ls (.int j :: .ref a :: t) h Q = ((13 ≤ hk h a ∧ hk h a ≤ 16) ∧ inb j (hl h a) ∧ Es d mi (pc + 1) ls (orv (hR h a j.toNatClampNeg) :: t) h Q) := by
  by_cases hq : (13 ≤ hk h a ∧ hk h a ≤ 16) ∧ inb j (hl h a)
  · rw [eq_true hq.1, true_and, eq_true hq.2, true_and]
    exact es_x hp hE hd (Or.inl rfl) (if_pos hq)
  · rw [← and_assoc, eq_false hq, false_and]
    exact es_no hp ((as_eq hE hd (Or.inl rfl)).trans (if_neg hq))
theorem es_iastore (hp : ¬ pc = 1126) {j : Int32} {a : Nat} {x : Int32} (hE : mtab[mi]? = some E) (hd : decode E.2.1 pc = .ok (.iastore, 1)) : Es d mi pc ls (.int x :: .int j :: .ref a :: t) h Q = (hk h a = 10 ∧ inb j (hl h a) ∧ Es d mi (pc + 1) ls t (wA h a (upd (hA h a) j.toNatClampNeg x)) Q) := by
  by_cases hq : hk h a = 10 ∧ inb j (hl h a)
  · rw [eq_true hq.1, true_and, eq_true hq.2, true_and]
    exact es_x hp hE hd (Or.inl rfl) (if_pos hq)
  · rw [← and_assoc, eq_false hq, false_and]
    exact es_no hp ((as_eq hE hd (Or.inl rfl)).trans (if_neg hq))
theorem es_aastore (hp : ¬ pc = 1126) {j : Int32} {a v kd kv : Nat} (hE : mtab[mi]? = some E) (hd : decode E.2.1 pc = .ok (.aastore, 1)) (hkd : (kd = 13 ∧ kv = 3) ∨ (kd = 15 ∧ kv = 20) ∨ (kd = 16 ∧ kv = 7) ∨ (kd = 14 ∧ kv = 10)) : hk h a = kd → Es d mi pc ls (.ref v :: .int j :: .ref a :: t) h Q = (hk h v = kv ∧ inb j (hl h a) ∧ Es d mi (pc + 1) ls t (wR h a (va_up (hR h a) j.toNatClampNeg (some v))) Q) := by
  intro ha
  have hx : aex E d pc ls (.ref v :: .int j :: .ref a :: t) h .aastore = if hk h v = kv ∧ inb j (hl h a) then nx (pc + 1) ls t (wR h a (va_up (hR h a) j.toNatClampNeg (some v))) else none := by
    show (if (hk h a = 13 ∨ hk h a = 15 ∨ hk h a = 16) ∧ hk h v = kc (elc (hk h a)) ∧ inb j (hl h a) then nx (pc + 1) ls t (wR h a (va_up (hR h a) j.toNatClampNeg (some v))) else if hk h a = 14 ∧ hk h v = 10 ∧ inb j (hl h a) then nx (pc + 1) ls t (wR h a (va_up (hR h a) j.toNatClampNeg (some v))) else none) = _
    rcases hkd with ⟨rfl, rfl⟩ | ⟨rfl, rfl⟩ | ⟨rfl, rfl⟩ | ⟨rfl, rfl⟩
    · by_cases hq : hk h v = 3 ∧ inb j (hl h a)
      · rw [if_pos hq, if_pos ⟨Or.inl ha, by rw [ha]; exact hq.1, hq.2⟩]
      · rw [if_neg hq, if_neg (fun z => hq ⟨by have := z.2.1; rw [ha] at this; exact this, z.2.2⟩), if_neg (by omega)]
    · by_cases hq : hk h v = 20 ∧ inb j (hl h a)
      · rw [if_pos hq, if_pos ⟨Or.inr (Or.inl ha), by rw [ha]; exact hq.1, hq.2⟩]
      · rw [if_neg hq, if_neg (fun z => hq ⟨by have := z.2.1; rw [ha] at this; exact this, z.2.2⟩), if_neg (by omega)]
    · by_cases hq : hk h v = 7 ∧ inb j (hl h a)
      · rw [if_pos hq, if_pos ⟨Or.inr (Or.inr ha), by rw [ha]; exact hq.1, hq.2⟩]
      · rw [if_neg hq, if_neg (fun z => hq ⟨by have := z.2.1; rw [ha] at this; exact this, z.2.2⟩), if_neg (by omega)]
    · by_cases hq : hk h v = 10 ∧ inb j (hl h a)
      · rw [if_pos hq, if_neg (by omega), if_pos ⟨ha, hq⟩]
      · rw [if_neg hq, if_neg (by omega), if_neg (fun z => hq z.2)]
  by_cases hq : hk h v = kv ∧ inb j (hl h a)
  · rw [eq_true hq.1, true_and, eq_true hq.2, true_and]
    exact es_x hp hE hd (Or.inl rfl) (hx.trans (if_pos hq))
  · rw [← and_assoc, eq_false hq, false_and]
    exact es_no hp ((as_eq hE hd (Or.inl rfl)).trans (hx.trans (if_neg hq)))
theorem es_aastoreK (hp : ¬ pc = 1126) {j : Int32} {a v kd kv : Nat} (hE : mtab[mi]? = some E) (hd : decode E.2.1 pc = .ok (.aastore, 1)) (hkd : (kd = 13 ∧ kv = 3) ∨ (kd = 15 ∧ kv = 20) ∨ (kd = 16 ∧ kv = 7) ∨ (kd = 14 ∧ kv = 10)) (ha : hk h a = kd) : Es d mi pc ls (.ref v :: .int j :: .ref a :: t) h Q = (hk h v = kv ∧ inb j (hl h a) ∧ Es d mi (pc + 1) ls t (wR h a (va_up (hR h a) j.toNatClampNeg (some v))) Q) := es_aastore hp hE hd hkd ha
theorem es_aastoreN (hp : ¬ pc = 1126) {j : Int32} {a : Nat} (hE : mtab[mi]? = some E) (hd : decode E.2.1 pc = .ok (.aastore, 1)) : Es d mi pc ls (.null :: .int j :: .ref a :: t) h Q = ((hk h a = 13 ∨ hk h a = 15 ∨ hk h a = 16) ∧ inb j (hl h a) ∧ Es d mi (pc + 1) ls t (wR h a (va_up (hR h a) j.toNatClampNeg none)) Q) := by
  by_cases hq : (hk h a = 13 ∨ hk h a = 15 ∨ hk h a = 16) ∧ inb j (hl h a)
  · rw [eq_true hq.1, true_and, eq_true hq.2, true_and]
    exact es_x hp hE hd (Or.inl rfl) (if_pos hq)
  · rw [← and_assoc, eq_false hq, false_and]
    exact es_no hp ((as_eq hE hd (Or.inl rfl)).trans (if_neg hq))
theorem es_ifnonnull (hp : ¬ pc = 1126) {off : Int} {g : Nat} {x : Value} (hx : isR x = true) (hE : mtab[mi]? = some E) (hd : decode E.2.1 pc = .ok (.ifnonnull off, 3)) (hg : tgt? pc off = some g) : Es d mi pc ls (x :: t) h Q = Es d mi (if x = .null then pc + 3 else g) ls t h Q := by
  refine es_x hp hE hd (Or.inl rfl) ?_
  unfold aex
  dsimp only
  rw [hg]
  exact if_pos hx
theorem es_ifnonnullN (hp : ¬ pc = 1126) {off : Int} {g : Nat} (hE : mtab[mi]? = some E) (hd : decode E.2.1 pc = .ok (.ifnonnull off, 3)) (hg : tgt? pc off = some g) : Es d mi pc ls (.null :: t) h Q = Es d mi (pc + 3) ls t h Q := (es_ifnonnull hp rfl hE hd hg).trans (by rw [if_pos rfl])
theorem es_ifnonnullR (hp : ¬ pc = 1126) {off : Int} {g a : Nat} (hE : mtab[mi]? = some E) (hd : decode E.2.1 pc = .ok (.ifnonnull off, 3)) (hg : tgt? pc off = some g) : Es d mi pc ls (.ref a :: t) h Q = Es d mi g ls t h Q := (es_ifnonnull hp rfl hE hd hg).trans (by rw [if_neg (by intro z; cases z)])
theorem es_arraylength (hp : ¬ pc = 1126) {a : Nat} (hE : mtab[mi]? = some E) (hd : decode E.2.1 pc = .ok (.arraylength, 1)) : Es d mi pc ls (.ref a :: t) h Q = ((10 ≤ hk h a ∧ hk h a ≤ 16) ∧ Es d mi (pc + 1) ls (.int (nI (hl h a)) :: t) h Q) := by
  by_cases hq : 10 ≤ hk h a ∧ hk h a ≤ 16
  · rw [eq_true hq, true_and]
    exact es_x hp hE hd (Or.inl rfl) (if_pos hq)
  · rw [eq_false hq, false_and]
    exact es_no hp ((as_eq hE hd (Or.inl rfl)).trans (if_neg hq))
theorem es_arraylengthX (hp : ¬ pc = 1126) (hE : mtab[mi]? = some E) (hd : decode E.2.1 pc = .ok (.arraylength, 1)) : Es d mi pc ls (scrV :: t) h Q = Es d mi (pc + 1) ls (.int (nI (hX h).1) :: t) h Q := es_x hp hE hd (Or.inl rfl) rfl
theorem es_new (hp : ¬ pc = 1126) {i cj n w : Nat} (hE : mtab[mi]? = some E) (hd : decode E.2.1 pc = .ok (.new i, 3)) (hc : look (E.2.2.2.2.1, i) clsT = some (w, cj)) (hn : cNf cj = n) : Es d mi pc ls st h Q = Es d mi (pc + 3) ls (.ref (hN h) :: st) (alO h (kc cj) n (dfl cj)) Q := by
  subst hn
  refine es_x hp hE hd (Or.inl rfl) ?_
  show (match look (E.2.2.2.2.1, i) clsT with | some (_, cj) => nx (pc + 3) ls (.ref (hN h) :: st) (alO h (kc cj) (cNf cj) (fun k => defaultValue (cY cj k))) | none => athr E d pc i st) = _
  rw [hc]
  rfl
theorem es_newI (hp : ¬ pc = 1126) {n : Int32} (hE : mtab[mi]? = some E) (hd : decode E.2.1 pc = .ok (.newarray .int, 2)) : Es d mi pc ls (.int n :: t) h Q = (¬ (n < 0 ∨ 60000000 < n.toNatClampNeg) ∧ Es d mi (pc + 2) ls (.ref (hN h) :: t) (alA h 10 n.toNatClampNeg) Q) := by
  by_cases hq : n < 0 ∨ 60000000 < n.toNatClampNeg
  · rw [eq_true hq, not_true, false_and]
    exact es_no hp ((as_eq hE hd (Or.inl rfl)).trans (if_pos hq))
  · rw [eq_false hq, not_false_eq_true, true_and]
    exact es_x hp hE hd (Or.inl rfl) (if_neg hq)
theorem es_newL (hp : ¬ pc = 1126) {i w cj kd : Nat} {n : Int32} (hE : mtab[mi]? = some E) (hd : decode E.2.1 pc = .ok (.anewarray i, 3)) (hc : look (E.2.2.2.2.1, i) clsT = some (w, cj)) (hcj : cj = 2 ∨ cj = 9 ∨ cj = 6) (hkd : rowK cj = kd) : Es d mi pc ls (.int n :: t) h Q = (¬ (n < 0 ∨ 60000000 < n.toNatClampNeg) ∧ Es d mi (pc + 3) ls (.ref (hN h) :: t) (alA h kd n.toNatClampNeg) Q) := by
  subst hkd
  by_cases hq : n < 0 ∨ 60000000 < n.toNatClampNeg
  · rw [eq_true hq, not_true, false_and]
    refine es_no hp ((as_eq hE hd (Or.inl rfl)).trans ?_)
    unfold aex
    exact if_pos hq
  · rw [eq_false hq, not_false_eq_true, true_and]
    refine es_x hp hE hd (Or.inl rfl) ?_
    unfold aex
    refine (if_neg hq).trans ?_
    rw [hc]
    exact if_pos hcj
theorem es_ldcI (hp : ¬ pc = 1126) {i w : Nat} {v c : Int32} (hE : mtab[mi]? = some E) (hd : decode E.2.1 pc = .ok (.ldc i, 2)) (hc : look (E.2.2.2.2.1, i) cstT = some (w, v)) (hv : v = c) : Es d mi pc ls st h Q = Es d mi (pc + 2) ls (.int c :: st) h Q := by
  subst hv
  refine es_x hp hE hd (Or.inl rfl) ?_
  show (match look (E.2.2.2.2.1, i) cstT with | some (_, v) => nx (pc + 2) ls (.int v :: st) h | none => match look (E.2.2.2.2.1, i) strT with | some (_, k) => nx (pc + 2) ls (litV k :: st) h | none => none) = _
  rw [hc]
theorem es_static (hp : ¬ pc = 1126) {i kd tm n : Nat} {Et : MI} {args rest : List Value} (hE : mtab[mi]? = some E) (hd : decode E.2.1 pc = .ok (.invokestatic i, 3)) (hm : ml E.2.2.2.2.1 i = some (kd, tm)) (hkd : kd = 0 ∨ kd = 1) (hEt : mtab[tm]? = some Et) (hn : npar Et = n) (h1 : n ≤ st.length) (h2 : ((st.drop n).map fun v => v.category).sum ≤ 8) (h3 : (st.take n).reverse = args) (h4 : st.drop n = rest) : Es (d + 1) mi pc ls st h Q = EvM d tm args h (ksN (d + 1) mi (pc + 3) ls rest Q) := by
  obtain ⟨w, s, hf⟩ := ml_look hm
  subst hn
  refine es_cl hp ((as_eq hE hd (Or.inl rfl)).trans ?_)
  unfold aex
  dsimp only
  rw [if_neg (Nat.succ_ne_zero d), hf]
  rcases hkd with rfl | rfl
  · show (match mtab[tm]? with | some Et => acall tm (npar Et) st | none => none) = _
    rw [hEt]
    exact acall_of h1 h2 h3 h4
  · show (match mtab[tm]? with | some Et => acall tm (npar Et) st | none => none) = _
    rw [hEt]
    exact acall_of h1 h2 h3 h4
theorem es_virtual (hp : ¬ pc = 1126) {i kd tm n : Nat} {Et : MI} {args rest : List Value} {v : Value} (hE : mtab[mi]? = some E) (hd : decode E.2.1 pc = .ok (.invokevirtual i, 3)) (hm : ml E.2.2.2.2.1 i = some (kd, tm)) (hkd : kd = 2 ∨ kd = 3) (hEt : mtab[tm]? = some Et) (hn : npar Et = n) (h0 : st[n]? = some v) (h1 : n + 1 ≤ st.length) (h2 : ((st.drop (n + 1)).map fun v => v.category).sum ≤ 8) (h3 : (st.take (n + 1)).reverse = args) (h4 : st.drop (n + 1) = rest) : Es (d + 1) mi pc ls st h Q = (recv h Et.2.2.2.2.1 (some v) = true ∧ EvM d tm args h (ksN (d + 1) mi (pc + 3) ls rest Q)) := by
  obtain ⟨w, s, hf⟩ := ml_look hm
  subst hn
  have hx : aex E (d + 1) pc ls st h (.invokevirtual i) = if recv h Et.2.2.2.2.1 (some v) = true then acall tm (npar Et + 1) st else none := by
    unfold aex
    dsimp only
    rw [hf]
    rcases hkd with rfl | rfl
    · show (match mtab[tm]? with | some Et => if recv h Et.2.2.2.2.1 st[npar Et]? = true then acall tm (npar Et + 1) st else none | none => none) = _
      rw [hEt, ← h0]
    · show (match mtab[tm]? with | some Et => if recv h Et.2.2.2.2.1 st[npar Et]? = true then acall tm (npar Et + 1) st else none | none => none) = _
      rw [hEt, ← h0]
  by_cases hq : recv h Et.2.2.2.2.1 (some v) = true
  · rw [eq_true hq, true_and]
    exact es_cl hp ((as_eq hE hd (Or.inl rfl)).trans (hx.trans ((if_pos hq).trans (acall_of h1 h2 h3 h4))))
  · rw [eq_false hq, false_and]
    exact es_no hp ((as_eq hE hd (Or.inl rfl)).trans (hx.trans (if_neg hq)))
theorem es_special (hp : ¬ pc = 1126) {i kd tm n : Nat} {Et : MI} {args rest : List Value} {v : Value} (hE : mtab[mi]? = some E) (hd : decode E.2.1 pc = .ok (.invokespecial i, 3)) (hm : ml E.2.2.2.2.1 i = some (kd, tm)) (hkd : kd = 4 ∨ kd = 5) (hEt : mtab[tm]? = some Et) (hn : npar Et = n) (h0 : st[n]? = some v) (h1 : n + 1 ≤ st.length) (h2 : ((st.drop (n + 1)).map fun v => v.category).sum ≤ 8) (h3 : (st.take (n + 1)).reverse = args) (h4 : st.drop (n + 1) = rest) : Es (d + 1) mi pc ls st h Q = (recv h Et.2.2.2.2.1 (some v) = true ∧ EvM d tm args h (ksN (d + 1) mi (pc + 3) ls rest Q)) := by
  obtain ⟨w, s, hf⟩ := ml_look hm
  subst hn
  have hx : aex E (d + 1) pc ls st h (.invokespecial i) = if recv h Et.2.2.2.2.1 (some v) = true then acall tm (npar Et + 1) st else none := by
    unfold aex
    dsimp only
    rw [hf]
    rcases hkd with rfl | rfl
    · show (match mtab[tm]? with | some Et => if recv h Et.2.2.2.2.1 st[npar Et]? = true then acall tm (npar Et + 1) st else none | none => none) = _
      rw [hEt, ← h0]
    · show (match mtab[tm]? with | some Et => if recv h Et.2.2.2.2.1 st[npar Et]? = true then acall tm (npar Et + 1) st else none | none => none) = _
      rw [hEt, ← h0]
  by_cases hq : recv h Et.2.2.2.2.1 (some v) = true
  · rw [eq_true hq, true_and]
    exact es_cl hp ((as_eq hE hd (Or.inl rfl)).trans (hx.trans ((if_pos hq).trans (acall_of h1 h2 h3 h4))))
  · rw [eq_false hq, false_and]
    exact es_no hp ((as_eq hE hd (Or.inl rfl)).trans (hx.trans (if_neg hq)))
theorem es_tsw (hp : ¬ pc = 1126) {df lo hi : Int} {offs : Array Int} {len g : Nat} {x : Int32} (hE : mtab[mi]? = some E) (hd : decode E.2.1 pc = .ok (.tableswitch df lo hi offs, len)) (hg : tsw pc df lo hi offs x = some g) : Es d mi pc ls (.int x :: t) h Q = Es d mi g ls t h Q := by
  refine es_x hp hE hd (Or.inr rfl) ?_
  show (match tsw pc df lo hi offs x with | some g => nx g ls t h | none => none) = _
  rw [hg]
theorem es_staticN (hp : ¬ pc = 1126) {i kd tm n : Nat} {Et : MI} {args rest : List Value} (hE : mtab[mi]? = some E) (hd : decode E.2.1 pc = .ok (.invokestatic i, 3)) (hm : ml E.2.2.2.2.1 i = some (kd, tm)) (hkd : kd = 0 ∨ kd = 1) (hEt : mtab[tm]? = some Et) (hn : npar Et = n) (h1 : n ≤ st.length) (h2 : ((st.drop n).map fun v => v.category).sum ≤ 8) (h3 : (st.take n).reverse = args) (h4 : st.drop n = rest) (hh : E.2.2.2.2.2 = []) : Es (d + 1) mi pc ls st h Q = EvM d tm args h (ksN (d + 1) mi (pc + 3) ls rest Q) := es_static hp hE hd hm hkd hEt hn h1 h2 h3 h4
theorem es_virtualG (hp : ¬ pc = 1126) {i kd tm n c a : Nat} {Et : MI} {args rest : List Value} (hE : mtab[mi]? = some E) (hd : decode E.2.1 pc = .ok (.invokevirtual i, 3)) (hm : ml E.2.2.2.2.1 i = some (kd, tm)) (hkd : kd = 2 ∨ kd = 3) (hEt : mtab[tm]? = some Et) (hn : npar Et = n) (hc : Et.2.2.2.2.1 = c) (hc7 : c < 12) (h0 : st[n]? = some (.ref a)) (h1 : n + 1 ≤ st.length) (h2 : ((st.drop (n + 1)).map fun v => v.category).sum ≤ 8) (h3 : (st.take (n + 1)).reverse = args) (h4 : st.drop (n + 1) = rest) : Es (d + 1) mi pc ls st h Q = (hk h a = kc c ∧ EvM d tm args h (ksN (d + 1) mi (pc + 3) ls rest Q)) := (es_virtual hp hE hd hm hkd hEt hn h0 h1 h2 h3 h4).trans (by rw [hc, recv_ref hc7])
theorem es_virtualN (hp : ¬ pc = 1126) {i kd tm n c a : Nat} {Et : MI} {args rest : List Value} (hE : mtab[mi]? = some E) (hd : decode E.2.1 pc = .ok (.invokevirtual i, 3)) (hm : ml E.2.2.2.2.1 i = some (kd, tm)) (hkd : kd = 2 ∨ kd = 3) (hEt : mtab[tm]? = some Et) (hn : npar Et = n) (hc : Et.2.2.2.2.1 = c) (hc7 : c < 12) (h0 : st[n]? = some (.ref a)) (h1 : n + 1 ≤ st.length) (h2 : ((st.drop (n + 1)).map fun v => v.category).sum ≤ 8) (h3 : (st.take (n + 1)).reverse = args) (h4 : st.drop (n + 1) = rest) (hh : E.2.2.2.2.2 = []) : Es (d + 1) mi pc ls st h Q = (hk h a = kc c ∧ EvM d tm args h (ksN (d + 1) mi (pc + 3) ls rest Q)) := es_virtualG hp hE hd hm hkd hEt hn hc hc7 h0 h1 h2 h3 h4
theorem es_specialG (hp : ¬ pc = 1126) {i kd tm n c a : Nat} {Et : MI} {args rest : List Value} (hE : mtab[mi]? = some E) (hd : decode E.2.1 pc = .ok (.invokespecial i, 3)) (hm : ml E.2.2.2.2.1 i = some (kd, tm)) (hkd : kd = 4 ∨ kd = 5) (hEt : mtab[tm]? = some Et) (hn : npar Et = n) (hc : Et.2.2.2.2.1 = c) (hc7 : c < 12) (h0 : st[n]? = some (.ref a)) (h1 : n + 1 ≤ st.length) (h2 : ((st.drop (n + 1)).map fun v => v.category).sum ≤ 8) (h3 : (st.take (n + 1)).reverse = args) (h4 : st.drop (n + 1) = rest) : Es (d + 1) mi pc ls st h Q = (hk h a = kc c ∧ EvM d tm args h (ksN (d + 1) mi (pc + 3) ls rest Q)) := (es_special hp hE hd hm hkd hEt hn h0 h1 h2 h3 h4).trans (by rw [hc, recv_ref hc7])
theorem es_specialN (hp : ¬ pc = 1126) {i kd tm n c a : Nat} {Et : MI} {args rest : List Value} (hE : mtab[mi]? = some E) (hd : decode E.2.1 pc = .ok (.invokespecial i, 3)) (hm : ml E.2.2.2.2.1 i = some (kd, tm)) (hkd : kd = 4 ∨ kd = 5) (hEt : mtab[tm]? = some Et) (hn : npar Et = n) (hc : Et.2.2.2.2.1 = c) (hc7 : c < 12) (h0 : st[n]? = some (.ref a)) (h1 : n + 1 ≤ st.length) (h2 : ((st.drop (n + 1)).map fun v => v.category).sum ≤ 8) (h3 : (st.take (n + 1)).reverse = args) (h4 : st.drop (n + 1) = rest) (hh : E.2.2.2.2.2 = []) : Es (d + 1) mi pc ls st h Q = (hk h a = kc c ∧ EvM d tm args h (ksN (d + 1) mi (pc + 3) ls rest Q)) := es_specialG hp hE hd hm hkd hEt hn hc hc7 h0 h1 h2 h3 h4
end ES
