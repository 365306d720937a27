/-! SOUNDNESS, part 5: a step -/
theorem acall_inl {t n : Nat} {st : List Value} {q : Nat × aLS × List Value × AH} (h : acall t n st = some (.inl q)) : False := by
  unfold acall at h
  split at h <;> cases h
theorem athr_inl {E : MI} {d pc i : Nat} {st : List Value} {q : Nat × aLS × List Value × AH} (h : athr E d pc i st = some (.inl q)) : False := by
  unfold athr at h
  repeat' split at h
  all_goals cases h
theorem tgt_eq {pc : Nat} {off : Int} {g : Nat} (h : tgt? pc off = some g) : (pc : Int) + off = (g : Int) := by
  unfold tgt? at h
  split at h
  · cases h; omega
  · cases h
theorem float_litV {u : UInt32} (h : u.toNat % 2 = 0) (h2 : 2 ≤ u.toNat) : Value.float u = litV (u.toNat / 2 - 1) := by
  unfold litV
  rw [show 2 * (u.toNat / 2 - 1) + 2 = u.toNat by omega]
  congr 1
  exact UInt32.ofNat_toNat.symm
theorem float_litB {u : UInt32} (h : u.toNat % 2 = 1) (h2 : 3 ≤ u.toNat) : Value.float u = litB (u.toNat / 2 - 1) := by
  unfold litB
  rw [show 2 * (u.toNat / 2 - 1) + 3 = u.toNat by omega]
  congr 1
  exact UInt32.ofNat_toNat.symm
section P5
variable {o : OM} {X : CX} {E : MI} {d n0 s0 nE sE L : Nat} {Q : State → Prop} {h : AH} {pc : Nat} {ls : aLS} {st : List Value}
theorem sd_litgetU (F : FR o X E d n0 s0 nE sE) {i wi fk : Nat} {u : UInt32} (hu : u.toNat % 2 = 0 ∧ 2 ≤ u.toNat ∧ u.toNat < 36) (hd : decode E.2.1 pc = .ok (.getfield i, 3)) (hL : look (E.2.2.2.2.1, i) litF = some (wi, fk)) (kk : WG o X L n0 s0 Q h (pc + 3) ls ((if fk = 0 then litB (u.toNat / 2 - 1) else .int 0) :: st)) : WG o X L n0 s0 Q h pc ls (.float u :: st) := by
  rw [float_litV hu.1 hu.2.1]
  exact sd_litget F (by omega) hd hL kk
theorem sd_litlenU (F : FR o X E d n0 s0 nE sE) {u : UInt32} (hu : u.toNat % 2 = 1 ∧ 3 ≤ u.toNat ∧ u.toNat < 37) (hd : decode E.2.1 pc = .ok (.arraylength, 1)) (kk : WG o X L n0 s0 Q h (pc + 1) ls (.int (nI (lenJ.getD (u.toNat / 2 - 1) 0)) :: st)) : WG o X L n0 s0 Q h pc ls (.float u :: st) := by
  rw [float_litB hu.1 hu.2.1]
  exact sd_litlen F (by omega) hd kk
theorem sd_litaldU (F : FR o X E d n0 s0 nE sE) {u : UInt32} {i : Int32} (hu : u.toNat % 2 = 1 ∧ 3 ≤ u.toNat ∧ u.toNat < 37 ∧ inb i (lenJ.getD (u.toNat / 2 - 1) 0)) (hd : decode E.2.1 pc = .ok (.baload, 1)) (kk : WG o X L n0 s0 Q h (pc + 1) ls (.int ((bytJ.getD (u.toNat / 2 - 1) []).getD i.toNatClampNeg 0) :: st)) : WG o X L n0 s0 Q h pc ls (.int i :: .float u :: st) := by
  rw [float_litB hu.1 hu.2.1]
  exact sd_litald F (by omega) hd (inb_vp hu.2.2.2) kk
theorem sd_lcopyU (F : FR o X E d n0 s0 nE sE) {i wi t b : Nat} {u : UInt32} {host : String} {sp dp n : Int32} (hu : u.toNat % 2 = 1 ∧ 3 ≤ u.toNat ∧ u.toNat < 37) (hLn : L = E.2.2.1) (hd : decode E.2.1 pc = .ok (.invokestatic i, 3)) (hL : look (E.2.2.2.2.1, i) mthT = some (9, wi, t, host)) (hd1 : 1 ≤ d) (hr : (st.map fun v => v.category).sum ≤ 8)
    (hb : hk h b = 11) (h1 : ¬ sp < 0) (h2 : ¬ dp < 0) (h3 : ¬ n < 0) (h4 : sp.toNatClampNeg + n.toNatClampNeg ≤ lenJ.getD (u.toNat / 2 - 1) 0) (h5 : dp.toNatClampNeg + n.toNatClampNeg ≤ hl h b) (hby : byOK (fun j => (bytJ.getD (u.toNat / 2 - 1) []).getD j 0) sp.toNatClampNeg n.toNatClampNeg)
    (kk : WG o X L n0 s0 Q (wA h b (va_cpy (fun j => (bytJ.getD (u.toNat / 2 - 1) []).getD j 0) (hA h b) sp.toNatClampNeg dp.toNatClampNeg n.toNatClampNeg)) (pc + 3) ls st) : WG o X L n0 s0 Q h pc ls (.int n :: .int dp :: .ref b :: .int sp :: .float u :: st) := by
  rw [float_litB hu.1 hu.2.1]
  exact sd_lcopy F hLn hd hL hd1 hr (by omega) hb h1 h2 h3 h4 h5 hby kk
theorem sd_slenU (F : FR o X E d n0 s0 nE sE) {u : UInt32} (hu : u = 0) (hd : decode E.2.1 pc = .ok (.arraylength, 1)) (kk : WG o X L n0 s0 Q h (pc + 1) ls (.int (nI (hX h).1) :: st)) : WG o X L n0 s0 Q h pc ls (.float u :: st) := by
  subst hu
  exact sd_slen F hd kk
theorem sd_sldU (F : FR o X E d n0 s0 nE sE) {u : UInt32} {i : Int32} (hu : u = 0 ∧ inb i (hX h).1) (hd : decode E.2.1 pc = .ok (.iaload, 1)) (kk : WG o X L n0 s0 Q h (pc + 1) ls (.int ((hX h).2 i.toNatClampNeg) :: st)) : WG o X L n0 s0 Q h pc ls (.int i :: .float u :: st) := by
  obtain ⟨rfl, hin⟩ := hu
  exact sd_sld F hd (inb_vp hin) kk
theorem len_cat {st : List Value} (h : st.length ≤ 4) : (st.map fun v => v.category).sum ≤ 8 := by
  have key : ∀ l : List Value, (l.map fun v => v.category).sum ≤ 2 * l.length := by
    intro l
    induction l with
    | nil => simp
    | cons v l ih =>
      have : v.category ≤ 2 := by cases v <;> simp [Value.category]
      simp only [List.map_cons, List.sum_cons, List.length_cons]
      omega
  have := key st
  omega

theorem an_iconst (F : FR o X E d n0 s0 nE sE) {n : Int} {pc' : Nat} {ls' : aLS} {st' : List Value} {h' : AH} (hd : decode E.2.1 pc = .ok ((.iconst n), ilen (.iconst n))) (hs : aex E d pc ls st h (.iconst n) = some (.inl (pc', ls', st', h'))) (r1 : oO o + hN h' ≤ nE) (r2 : hS h' ≤ sE)
    (k : WG o X E.2.2.1 n0 s0 Q h' pc' ls' st') : WG o X E.2.2.1 n0 s0 Q h pc ls st := by
  dsimp only [aex] at hs
  repeat' split at hs
  all_goals first | (cases hs; done) | exact (acall_inl hs).elim | exact (athr_inl hs).elim | (simp only [nx, Option.some.injEq, Sum.inl.injEq, Prod.mk.injEq] at hs; obtain ⟨rfl, rfl, rfl, rfl⟩ := hs)
  all_goals first
    | exact sd_iconst F hd k

theorem an_bipush (F : FR o X E d n0 s0 nE sE) {n : Int} {pc' : Nat} {ls' : aLS} {st' : List Value} {h' : AH} (hd : decode E.2.1 pc = .ok ((.bipush n), ilen (.bipush n))) (hs : aex E d pc ls st h (.bipush n) = some (.inl (pc', ls', st', h'))) (r1 : oO o + hN h' ≤ nE) (r2 : hS h' ≤ sE)
    (k : WG o X E.2.2.1 n0 s0 Q h' pc' ls' st') : WG o X E.2.2.1 n0 s0 Q h pc ls st := by
  dsimp only [aex] at hs
  repeat' split at hs
  all_goals first | (cases hs; done) | exact (acall_inl hs).elim | exact (athr_inl hs).elim | (simp only [nx, Option.some.injEq, Sum.inl.injEq, Prod.mk.injEq] at hs; obtain ⟨rfl, rfl, rfl, rfl⟩ := hs)
  all_goals first
    | exact sd_bipush F hd k

theorem an_sipush (F : FR o X E d n0 s0 nE sE) {n : Int} {pc' : Nat} {ls' : aLS} {st' : List Value} {h' : AH} (hd : decode E.2.1 pc = .ok ((.sipush n), ilen (.sipush n))) (hs : aex E d pc ls st h (.sipush n) = some (.inl (pc', ls', st', h'))) (r1 : oO o + hN h' ≤ nE) (r2 : hS h' ≤ sE)
    (k : WG o X E.2.2.1 n0 s0 Q h' pc' ls' st') : WG o X E.2.2.1 n0 s0 Q h pc ls st := by
  dsimp only [aex] at hs
  repeat' split at hs
  all_goals first | (cases hs; done) | exact (acall_inl hs).elim | exact (athr_inl hs).elim | (simp only [nx, Option.some.injEq, Sum.inl.injEq, Prod.mk.injEq] at hs; obtain ⟨rfl, rfl, rfl, rfl⟩ := hs)
  all_goals first
    | exact sd_sipush F hd k

theorem an_lconst (F : FR o X E d n0 s0 nE sE) {n : Fin 2} {pc' : Nat} {ls' : aLS} {st' : List Value} {h' : AH} (hd : decode E.2.1 pc = .ok ((.lconst n), ilen (.lconst n))) (hs : aex E d pc ls st h (.lconst n) = some (.inl (pc', ls', st', h'))) (r1 : oO o + hN h' ≤ nE) (r2 : hS h' ≤ sE)
    (k : WG o X E.2.2.1 n0 s0 Q h' pc' ls' st') : WG o X E.2.2.1 n0 s0 Q h pc ls st := by
  dsimp only [aex] at hs
  repeat' split at hs
  all_goals first | (cases hs; done) | exact (acall_inl hs).elim | exact (athr_inl hs).elim | (simp only [nx, Option.some.injEq, Sum.inl.injEq, Prod.mk.injEq] at hs; obtain ⟨rfl, rfl, rfl, rfl⟩ := hs)
  all_goals first
    | exact sd_lconst F hd k

theorem an_iload_n (F : FR o X E d n0 s0 nE sE) {n : Fin 4} {pc' : Nat} {ls' : aLS} {st' : List Value} {h' : AH} (hd : decode E.2.1 pc = .ok ((.iload_n n), ilen (.iload_n n))) (hs : aex E d pc ls st h (.iload_n n) = some (.inl (pc', ls', st', h'))) (r1 : oO o + hN h' ≤ nE) (r2 : hS h' ≤ sE)
    (k : WG o X E.2.2.1 n0 s0 Q h' pc' ls' st') : WG o X E.2.2.1 n0 s0 Q h pc ls st := by
  dsimp only [aex] at hs
  repeat' split at hs
  all_goals first | (cases hs; done) | exact (acall_inl hs).elim | exact (athr_inl hs).elim | (simp only [nx, Option.some.injEq, Sum.inl.injEq, Prod.mk.injEq] at hs; obtain ⟨rfl, rfl, rfl, rfl⟩ := hs)
  all_goals first
    | exact sd_iload_n F hd (by assumption) k

theorem an_iload (F : FR o X E d n0 s0 nE sE) {n : Nat} {pc' : Nat} {ls' : aLS} {st' : List Value} {h' : AH} (hd : decode E.2.1 pc = .ok ((.iload n), ilen (.iload n))) (hs : aex E d pc ls st h (.iload n) = some (.inl (pc', ls', st', h'))) (r1 : oO o + hN h' ≤ nE) (r2 : hS h' ≤ sE)
    (k : WG o X E.2.2.1 n0 s0 Q h' pc' ls' st') : WG o X E.2.2.1 n0 s0 Q h pc ls st := by
  dsimp only [aex] at hs
  repeat' split at hs
  all_goals first | (cases hs; done) | exact (acall_inl hs).elim | exact (athr_inl hs).elim | (simp only [nx, Option.some.injEq, Sum.inl.injEq, Prod.mk.injEq] at hs; obtain ⟨rfl, rfl, rfl, rfl⟩ := hs)
  all_goals first
    | exact sd_iload F hd (by assumption) k

theorem an_lload_n (F : FR o X E d n0 s0 nE sE) {n : Fin 4} {pc' : Nat} {ls' : aLS} {st' : List Value} {h' : AH} (hd : decode E.2.1 pc = .ok ((.lload_n n), ilen (.lload_n n))) (hs : aex E d pc ls st h (.lload_n n) = some (.inl (pc', ls', st', h'))) (r1 : oO o + hN h' ≤ nE) (r2 : hS h' ≤ sE)
    (k : WG o X E.2.2.1 n0 s0 Q h' pc' ls' st') : WG o X E.2.2.1 n0 s0 Q h pc ls st := by
  dsimp only [aex] at hs
  repeat' split at hs
  all_goals first | (cases hs; done) | exact (acall_inl hs).elim | exact (athr_inl hs).elim | (simp only [nx, Option.some.injEq, Sum.inl.injEq, Prod.mk.injEq] at hs; obtain ⟨rfl, rfl, rfl, rfl⟩ := hs)
  all_goals first
    | exact sd_lload_n F hd (by assumption) k

theorem an_lload (F : FR o X E d n0 s0 nE sE) {n : Nat} {pc' : Nat} {ls' : aLS} {st' : List Value} {h' : AH} (hd : decode E.2.1 pc = .ok ((.lload n), ilen (.lload n))) (hs : aex E d pc ls st h (.lload n) = some (.inl (pc', ls', st', h'))) (r1 : oO o + hN h' ≤ nE) (r2 : hS h' ≤ sE)
    (k : WG o X E.2.2.1 n0 s0 Q h' pc' ls' st') : WG o X E.2.2.1 n0 s0 Q h pc ls st := by
  dsimp only [aex] at hs
  repeat' split at hs
  all_goals first | (cases hs; done) | exact (acall_inl hs).elim | exact (athr_inl hs).elim | (simp only [nx, Option.some.injEq, Sum.inl.injEq, Prod.mk.injEq] at hs; obtain ⟨rfl, rfl, rfl, rfl⟩ := hs)
  all_goals first
    | exact sd_lload F hd (by assumption) k

theorem an_aload_n (F : FR o X E d n0 s0 nE sE) {n : Fin 4} {pc' : Nat} {ls' : aLS} {st' : List Value} {h' : AH} (hd : decode E.2.1 pc = .ok ((.aload_n n), ilen (.aload_n n))) (hs : aex E d pc ls st h (.aload_n n) = some (.inl (pc', ls', st', h'))) (r1 : oO o + hN h' ≤ nE) (r2 : hS h' ≤ sE)
    (k : WG o X E.2.2.1 n0 s0 Q h' pc' ls' st') : WG o X E.2.2.1 n0 s0 Q h pc ls st := by
  dsimp only [aex] at hs
  repeat' split at hs
  all_goals first | (cases hs; done) | exact (acall_inl hs).elim | exact (athr_inl hs).elim | (simp only [nx, Option.some.injEq, Sum.inl.injEq, Prod.mk.injEq] at hs; obtain ⟨rfl, rfl, rfl, rfl⟩ := hs)
  all_goals first
    | exact sd_aload_n F (by assumption) hd (by assumption) k

theorem an_aload (F : FR o X E d n0 s0 nE sE) {n : Nat} {pc' : Nat} {ls' : aLS} {st' : List Value} {h' : AH} (hd : decode E.2.1 pc = .ok ((.aload n), ilen (.aload n))) (hs : aex E d pc ls st h (.aload n) = some (.inl (pc', ls', st', h'))) (r1 : oO o + hN h' ≤ nE) (r2 : hS h' ≤ sE)
    (k : WG o X E.2.2.1 n0 s0 Q h' pc' ls' st') : WG o X E.2.2.1 n0 s0 Q h pc ls st := by
  dsimp only [aex] at hs
  repeat' split at hs
  all_goals first | (cases hs; done) | exact (acall_inl hs).elim | exact (athr_inl hs).elim | (simp only [nx, Option.some.injEq, Sum.inl.injEq, Prod.mk.injEq] at hs; obtain ⟨rfl, rfl, rfl, rfl⟩ := hs)
  all_goals first
    | exact sd_aload F (by assumption) hd (by assumption) k

theorem an_istore_n (F : FR o X E d n0 s0 nE sE) {n : Fin 4} {pc' : Nat} {ls' : aLS} {st' : List Value} {h' : AH} (hd : decode E.2.1 pc = .ok ((.istore_n n), ilen (.istore_n n))) (hs : aex E d pc ls st h (.istore_n n) = some (.inl (pc', ls', st', h'))) (r1 : oO o + hN h' ≤ nE) (r2 : hS h' ≤ sE)
    (k : WG o X E.2.2.1 n0 s0 Q h' pc' ls' st') : WG o X E.2.2.1 n0 s0 Q h pc ls st := by
  dsimp only [aex] at hs
  repeat' split at hs
  all_goals first | (cases hs; done) | exact (acall_inl hs).elim | exact (athr_inl hs).elim | (simp only [nx, Option.some.injEq, Sum.inl.injEq, Prod.mk.injEq] at hs; obtain ⟨rfl, rfl, rfl, rfl⟩ := hs)
  all_goals first
    | exact sd_istore_n F hd (by assumption) k

theorem an_istore (F : FR o X E d n0 s0 nE sE) {n : Nat} {pc' : Nat} {ls' : aLS} {st' : List Value} {h' : AH} (hd : decode E.2.1 pc = .ok ((.istore n), ilen (.istore n))) (hs : aex E d pc ls st h (.istore n) = some (.inl (pc', ls', st', h'))) (r1 : oO o + hN h' ≤ nE) (r2 : hS h' ≤ sE)
    (k : WG o X E.2.2.1 n0 s0 Q h' pc' ls' st') : WG o X E.2.2.1 n0 s0 Q h pc ls st := by
  dsimp only [aex] at hs
  repeat' split at hs
  all_goals first | (cases hs; done) | exact (acall_inl hs).elim | exact (athr_inl hs).elim | (simp only [nx, Option.some.injEq, Sum.inl.injEq, Prod.mk.injEq] at hs; obtain ⟨rfl, rfl, rfl, rfl⟩ := hs)
  all_goals first
    | exact sd_istore F hd (by assumption) k

theorem an_lstore_n (F : FR o X E d n0 s0 nE sE) {n : Fin 4} {pc' : Nat} {ls' : aLS} {st' : List Value} {h' : AH} (hd : decode E.2.1 pc = .ok ((.lstore_n n), ilen (.lstore_n n))) (hs : aex E d pc ls st h (.lstore_n n) = some (.inl (pc', ls', st', h'))) (r1 : oO o + hN h' ≤ nE) (r2 : hS h' ≤ sE)
    (k : WG o X E.2.2.1 n0 s0 Q h' pc' ls' st') : WG o X E.2.2.1 n0 s0 Q h pc ls st := by
  dsimp only [aex] at hs
  repeat' split at hs
  all_goals first | (cases hs; done) | exact (acall_inl hs).elim | exact (athr_inl hs).elim | (simp only [nx, Option.some.injEq, Sum.inl.injEq, Prod.mk.injEq] at hs; obtain ⟨rfl, rfl, rfl, rfl⟩ := hs)
  all_goals first
    | exact sd_lstore_n F hd (by assumption) k

theorem an_lstore (F : FR o X E d n0 s0 nE sE) {n : Nat} {pc' : Nat} {ls' : aLS} {st' : List Value} {h' : AH} (hd : decode E.2.1 pc = .ok ((.lstore n), ilen (.lstore n))) (hs : aex E d pc ls st h (.lstore n) = some (.inl (pc', ls', st', h'))) (r1 : oO o + hN h' ≤ nE) (r2 : hS h' ≤ sE)
    (k : WG o X E.2.2.1 n0 s0 Q h' pc' ls' st') : WG o X E.2.2.1 n0 s0 Q h pc ls st := by
  dsimp only [aex] at hs
  repeat' split at hs
  all_goals first | (cases hs; done) | exact (acall_inl hs).elim | exact (athr_inl hs).elim | (simp only [nx, Option.some.injEq, Sum.inl.injEq, Prod.mk.injEq] at hs; obtain ⟨rfl, rfl, rfl, rfl⟩ := hs)
  all_goals first
    | exact sd_lstore F hd (by assumption) k

theorem an_astore_n (F : FR o X E d n0 s0 nE sE) {n : Fin 4} {pc' : Nat} {ls' : aLS} {st' : List Value} {h' : AH} (hd : decode E.2.1 pc = .ok ((.astore_n n), ilen (.astore_n n))) (hs : aex E d pc ls st h (.astore_n n) = some (.inl (pc', ls', st', h'))) (r1 : oO o + hN h' ≤ nE) (r2 : hS h' ≤ sE)
    (k : WG o X E.2.2.1 n0 s0 Q h' pc' ls' st') : WG o X E.2.2.1 n0 s0 Q h pc ls st := by
  dsimp only [aex] at hs
  repeat' split at hs
  all_goals first | (cases hs; done) | exact (acall_inl hs).elim | exact (athr_inl hs).elim | (simp only [nx, Option.some.injEq, Sum.inl.injEq, Prod.mk.injEq] at hs; obtain ⟨rfl, rfl, rfl, rfl⟩ := hs)
  all_goals first
    | exact sd_astore_n F (And.left (by assumption)) hd (And.right (by assumption)) k

theorem an_astore (F : FR o X E d n0 s0 nE sE) {n : Nat} {pc' : Nat} {ls' : aLS} {st' : List Value} {h' : AH} (hd : decode E.2.1 pc = .ok ((.astore n), ilen (.astore n))) (hs : aex E d pc ls st h (.astore n) = some (.inl (pc', ls', st', h'))) (r1 : oO o + hN h' ≤ nE) (r2 : hS h' ≤ sE)
    (k : WG o X E.2.2.1 n0 s0 Q h' pc' ls' st') : WG o X E.2.2.1 n0 s0 Q h pc ls st := by
  dsimp only [aex] at hs
  repeat' split at hs
  all_goals first | (cases hs; done) | exact (acall_inl hs).elim | exact (athr_inl hs).elim | (simp only [nx, Option.some.injEq, Sum.inl.injEq, Prod.mk.injEq] at hs; obtain ⟨rfl, rfl, rfl, rfl⟩ := hs)
  all_goals first
    | exact sd_astore F (And.left (by assumption)) hd (And.right (by assumption)) k

theorem an_iinc (F : FR o X E d n0 s0 nE sE) {n : Nat} {q : Int} {pc' : Nat} {ls' : aLS} {st' : List Value} {h' : AH} (hd : decode E.2.1 pc = .ok ((.iinc n q), ilen (.iinc n q))) (hs : aex E d pc ls st h (.iinc n q) = some (.inl (pc', ls', st', h'))) (r1 : oO o + hN h' ≤ nE) (r2 : hS h' ≤ sE)
    (k : WG o X E.2.2.1 n0 s0 Q h' pc' ls' st') : WG o X E.2.2.1 n0 s0 Q h pc ls st := by
  dsimp only [aex] at hs
  repeat' split at hs
  all_goals first | (cases hs; done) | exact (acall_inl hs).elim | exact (athr_inl hs).elim | (simp only [nx, Option.some.injEq, Sum.inl.injEq, Prod.mk.injEq] at hs; obtain ⟨rfl, rfl, rfl, rfl⟩ := hs)
  all_goals first
    | exact sd_iinc F hd (by assumption) k

theorem an_iadd (F : FR o X E d n0 s0 nE sE)  {pc' : Nat} {ls' : aLS} {st' : List Value} {h' : AH} (hd : decode E.2.1 pc = .ok (.iadd, ilen .iadd)) (hs : aex E d pc ls st h .iadd = some (.inl (pc', ls', st', h'))) (r1 : oO o + hN h' ≤ nE) (r2 : hS h' ≤ sE)
    (k : WG o X E.2.2.1 n0 s0 Q h' pc' ls' st') : WG o X E.2.2.1 n0 s0 Q h pc ls st := by
  dsimp only [aex] at hs
  repeat' split at hs
  all_goals first | (cases hs; done) | exact (acall_inl hs).elim | exact (athr_inl hs).elim | (simp only [nx, Option.some.injEq, Sum.inl.injEq, Prod.mk.injEq] at hs; obtain ⟨rfl, rfl, rfl, rfl⟩ := hs)
  all_goals first
    | exact sd_iadd F hd k

theorem an_isub (F : FR o X E d n0 s0 nE sE)  {pc' : Nat} {ls' : aLS} {st' : List Value} {h' : AH} (hd : decode E.2.1 pc = .ok (.isub, ilen .isub)) (hs : aex E d pc ls st h .isub = some (.inl (pc', ls', st', h'))) (r1 : oO o + hN h' ≤ nE) (r2 : hS h' ≤ sE)
    (k : WG o X E.2.2.1 n0 s0 Q h' pc' ls' st') : WG o X E.2.2.1 n0 s0 Q h pc ls st := by
  dsimp only [aex] at hs
  repeat' split at hs
  all_goals first | (cases hs; done) | exact (acall_inl hs).elim | exact (athr_inl hs).elim | (simp only [nx, Option.some.injEq, Sum.inl.injEq, Prod.mk.injEq] at hs; obtain ⟨rfl, rfl, rfl, rfl⟩ := hs)
  all_goals first
    | exact sd_isub F hd k

theorem an_imul (F : FR o X E d n0 s0 nE sE)  {pc' : Nat} {ls' : aLS} {st' : List Value} {h' : AH} (hd : decode E.2.1 pc = .ok (.imul, ilen .imul)) (hs : aex E d pc ls st h .imul = some (.inl (pc', ls', st', h'))) (r1 : oO o + hN h' ≤ nE) (r2 : hS h' ≤ sE)
    (k : WG o X E.2.2.1 n0 s0 Q h' pc' ls' st') : WG o X E.2.2.1 n0 s0 Q h pc ls st := by
  dsimp only [aex] at hs
  repeat' split at hs
  all_goals first | (cases hs; done) | exact (acall_inl hs).elim | exact (athr_inl hs).elim | (simp only [nx, Option.some.injEq, Sum.inl.injEq, Prod.mk.injEq] at hs; obtain ⟨rfl, rfl, rfl, rfl⟩ := hs)
  all_goals first
    | exact sd_imul F hd k

theorem an_ineg (F : FR o X E d n0 s0 nE sE)  {pc' : Nat} {ls' : aLS} {st' : List Value} {h' : AH} (hd : decode E.2.1 pc = .ok (.ineg, ilen .ineg)) (hs : aex E d pc ls st h .ineg = some (.inl (pc', ls', st', h'))) (r1 : oO o + hN h' ≤ nE) (r2 : hS h' ≤ sE)
    (k : WG o X E.2.2.1 n0 s0 Q h' pc' ls' st') : WG o X E.2.2.1 n0 s0 Q h pc ls st := by
  dsimp only [aex] at hs
  repeat' split at hs
  all_goals first | (cases hs; done) | exact (acall_inl hs).elim | exact (athr_inl hs).elim | (simp only [nx, Option.some.injEq, Sum.inl.injEq, Prod.mk.injEq] at hs; obtain ⟨rfl, rfl, rfl, rfl⟩ := hs)
  all_goals first
    | exact sd_ineg F hd k

theorem an_iand (F : FR o X E d n0 s0 nE sE)  {pc' : Nat} {ls' : aLS} {st' : List Value} {h' : AH} (hd : decode E.2.1 pc = .ok (.iand, ilen .iand)) (hs : aex E d pc ls st h .iand = some (.inl (pc', ls', st', h'))) (r1 : oO o + hN h' ≤ nE) (r2 : hS h' ≤ sE)
    (k : WG o X E.2.2.1 n0 s0 Q h' pc' ls' st') : WG o X E.2.2.1 n0 s0 Q h pc ls st := by
  dsimp only [aex] at hs
  repeat' split at hs
  all_goals first | (cases hs; done) | exact (acall_inl hs).elim | exact (athr_inl hs).elim | (simp only [nx, Option.some.injEq, Sum.inl.injEq, Prod.mk.injEq] at hs; obtain ⟨rfl, rfl, rfl, rfl⟩ := hs)
  all_goals first
    | exact sd_iand F hd k

theorem an_ior (F : FR o X E d n0 s0 nE sE)  {pc' : Nat} {ls' : aLS} {st' : List Value} {h' : AH} (hd : decode E.2.1 pc = .ok (.ior, ilen .ior)) (hs : aex E d pc ls st h .ior = some (.inl (pc', ls', st', h'))) (r1 : oO o + hN h' ≤ nE) (r2 : hS h' ≤ sE)
    (k : WG o X E.2.2.1 n0 s0 Q h' pc' ls' st') : WG o X E.2.2.1 n0 s0 Q h pc ls st := by
  dsimp only [aex] at hs
  repeat' split at hs
  all_goals first | (cases hs; done) | exact (acall_inl hs).elim | exact (athr_inl hs).elim | (simp only [nx, Option.some.injEq, Sum.inl.injEq, Prod.mk.injEq] at hs; obtain ⟨rfl, rfl, rfl, rfl⟩ := hs)
  all_goals first
    | exact sd_ior F hd k

theorem an_ishl (F : FR o X E d n0 s0 nE sE)  {pc' : Nat} {ls' : aLS} {st' : List Value} {h' : AH} (hd : decode E.2.1 pc = .ok (.ishl, ilen .ishl)) (hs : aex E d pc ls st h .ishl = some (.inl (pc', ls', st', h'))) (r1 : oO o + hN h' ≤ nE) (r2 : hS h' ≤ sE)
    (k : WG o X E.2.2.1 n0 s0 Q h' pc' ls' st') : WG o X E.2.2.1 n0 s0 Q h pc ls st := by
  dsimp only [aex] at hs
  repeat' split at hs
  all_goals first | (cases hs; done) | exact (acall_inl hs).elim | exact (athr_inl hs).elim | (simp only [nx, Option.some.injEq, Sum.inl.injEq, Prod.mk.injEq] at hs; obtain ⟨rfl, rfl, rfl, rfl⟩ := hs)
  all_goals first
    | exact sd_ishl F hd k

theorem an_ishr (F : FR o X E d n0 s0 nE sE)  {pc' : Nat} {ls' : aLS} {st' : List Value} {h' : AH} (hd : decode E.2.1 pc = .ok (.ishr, ilen .ishr)) (hs : aex E d pc ls st h .ishr = some (.inl (pc', ls', st', h'))) (r1 : oO o + hN h' ≤ nE) (r2 : hS h' ≤ sE)
    (k : WG o X E.2.2.1 n0 s0 Q h' pc' ls' st') : WG o X E.2.2.1 n0 s0 Q h pc ls st := by
  dsimp only [aex] at hs
  repeat' split at hs
  all_goals first | (cases hs; done) | exact (acall_inl hs).elim | exact (athr_inl hs).elim | (simp only [nx, Option.some.injEq, Sum.inl.injEq, Prod.mk.injEq] at hs; obtain ⟨rfl, rfl, rfl, rfl⟩ := hs)
  all_goals first
    | exact sd_ishr F hd k

theorem an_iushr (F : FR o X E d n0 s0 nE sE)  {pc' : Nat} {ls' : aLS} {st' : List Value} {h' : AH} (hd : decode E.2.1 pc = .ok (.iushr, ilen .iushr)) (hs : aex E d pc ls st h .iushr = some (.inl (pc', ls', st', h'))) (r1 : oO o + hN h' ≤ nE) (r2 : hS h' ≤ sE)
    (k : WG o X E.2.2.1 n0 s0 Q h' pc' ls' st') : WG o X E.2.2.1 n0 s0 Q h pc ls st := by
  dsimp only [aex] at hs
  repeat' split at hs
  all_goals first | (cases hs; done) | exact (acall_inl hs).elim | exact (athr_inl hs).elim | (simp only [nx, Option.some.injEq, Sum.inl.injEq, Prod.mk.injEq] at hs; obtain ⟨rfl, rfl, rfl, rfl⟩ := hs)
  all_goals first
    | exact sd_iushr F hd k

theorem an_ladd (F : FR o X E d n0 s0 nE sE)  {pc' : Nat} {ls' : aLS} {st' : List Value} {h' : AH} (hd : decode E.2.1 pc = .ok (.ladd, ilen .ladd)) (hs : aex E d pc ls st h .ladd = some (.inl (pc', ls', st', h'))) (r1 : oO o + hN h' ≤ nE) (r2 : hS h' ≤ sE)
    (k : WG o X E.2.2.1 n0 s0 Q h' pc' ls' st') : WG o X E.2.2.1 n0 s0 Q h pc ls st := by
  dsimp only [aex] at hs
  repeat' split at hs
  all_goals first | (cases hs; done) | exact (acall_inl hs).elim | exact (athr_inl hs).elim | (simp only [nx, Option.some.injEq, Sum.inl.injEq, Prod.mk.injEq] at hs; obtain ⟨rfl, rfl, rfl, rfl⟩ := hs)
  all_goals first
    | exact sd_ladd F hd k

theorem an_lsub (F : FR o X E d n0 s0 nE sE)  {pc' : Nat} {ls' : aLS} {st' : List Value} {h' : AH} (hd : decode E.2.1 pc = .ok (.lsub, ilen .lsub)) (hs : aex E d pc ls st h .lsub = some (.inl (pc', ls', st', h'))) (r1 : oO o + hN h' ≤ nE) (r2 : hS h' ≤ sE)
    (k : WG o X E.2.2.1 n0 s0 Q h' pc' ls' st') : WG o X E.2.2.1 n0 s0 Q h pc ls st := by
  dsimp only [aex] at hs
  repeat' split at hs
  all_goals first | (cases hs; done) | exact (acall_inl hs).elim | exact (athr_inl hs).elim | (simp only [nx, Option.some.injEq, Sum.inl.injEq, Prod.mk.injEq] at hs; obtain ⟨rfl, rfl, rfl, rfl⟩ := hs)
  all_goals first
    | exact sd_lsub F hd k

theorem an_lmul (F : FR o X E d n0 s0 nE sE)  {pc' : Nat} {ls' : aLS} {st' : List Value} {h' : AH} (hd : decode E.2.1 pc = .ok (.lmul, ilen .lmul)) (hs : aex E d pc ls st h .lmul = some (.inl (pc', ls', st', h'))) (r1 : oO o + hN h' ≤ nE) (r2 : hS h' ≤ sE)
    (k : WG o X E.2.2.1 n0 s0 Q h' pc' ls' st') : WG o X E.2.2.1 n0 s0 Q h pc ls st := by
  dsimp only [aex] at hs
  repeat' split at hs
  all_goals first | (cases hs; done) | exact (acall_inl hs).elim | exact (athr_inl hs).elim | (simp only [nx, Option.some.injEq, Sum.inl.injEq, Prod.mk.injEq] at hs; obtain ⟨rfl, rfl, rfl, rfl⟩ := hs)
  all_goals first
    | exact sd_lmul F hd k

theorem an_lcmp (F : FR o X E d n0 s0 nE sE)  {pc' : Nat} {ls' : aLS} {st' : List Value} {h' : AH} (hd : decode E.2.1 pc = .ok (.lcmp, ilen .lcmp)) (hs : aex E d pc ls st h .lcmp = some (.inl (pc', ls', st', h'))) (r1 : oO o + hN h' ≤ nE) (r2 : hS h' ≤ sE)
    (k : WG o X E.2.2.1 n0 s0 Q h' pc' ls' st') : WG o X E.2.2.1 n0 s0 Q h pc ls st := by
  dsimp only [aex] at hs
  repeat' split at hs
  all_goals first | (cases hs; done) | exact (acall_inl hs).elim | exact (athr_inl hs).elim | (simp only [nx, Option.some.injEq, Sum.inl.injEq, Prod.mk.injEq] at hs; obtain ⟨rfl, rfl, rfl, rfl⟩ := hs)
  all_goals first
    | exact sd_lcmp F hd k

theorem an_i2l (F : FR o X E d n0 s0 nE sE)  {pc' : Nat} {ls' : aLS} {st' : List Value} {h' : AH} (hd : decode E.2.1 pc = .ok (.i2l, ilen .i2l)) (hs : aex E d pc ls st h .i2l = some (.inl (pc', ls', st', h'))) (r1 : oO o + hN h' ≤ nE) (r2 : hS h' ≤ sE)
    (k : WG o X E.2.2.1 n0 s0 Q h' pc' ls' st') : WG o X E.2.2.1 n0 s0 Q h pc ls st := by
  dsimp only [aex] at hs
  repeat' split at hs
  all_goals first | (cases hs; done) | exact (acall_inl hs).elim | exact (athr_inl hs).elim | (simp only [nx, Option.some.injEq, Sum.inl.injEq, Prod.mk.injEq] at hs; obtain ⟨rfl, rfl, rfl, rfl⟩ := hs)
  all_goals first
    | exact sd_i2l F hd k

theorem an_l2i (F : FR o X E d n0 s0 nE sE)  {pc' : Nat} {ls' : aLS} {st' : List Value} {h' : AH} (hd : decode E.2.1 pc = .ok (.l2i, ilen .l2i)) (hs : aex E d pc ls st h .l2i = some (.inl (pc', ls', st', h'))) (r1 : oO o + hN h' ≤ nE) (r2 : hS h' ≤ sE)
    (k : WG o X E.2.2.1 n0 s0 Q h' pc' ls' st') : WG o X E.2.2.1 n0 s0 Q h pc ls st := by
  dsimp only [aex] at hs
  repeat' split at hs
  all_goals first | (cases hs; done) | exact (acall_inl hs).elim | exact (athr_inl hs).elim | (simp only [nx, Option.some.injEq, Sum.inl.injEq, Prod.mk.injEq] at hs; obtain ⟨rfl, rfl, rfl, rfl⟩ := hs)
  all_goals first
    | exact sd_l2i F hd k

theorem an_i2b (F : FR o X E d n0 s0 nE sE)  {pc' : Nat} {ls' : aLS} {st' : List Value} {h' : AH} (hd : decode E.2.1 pc = .ok (.i2b, ilen .i2b)) (hs : aex E d pc ls st h .i2b = some (.inl (pc', ls', st', h'))) (r1 : oO o + hN h' ≤ nE) (r2 : hS h' ≤ sE)
    (k : WG o X E.2.2.1 n0 s0 Q h' pc' ls' st') : WG o X E.2.2.1 n0 s0 Q h pc ls st := by
  dsimp only [aex] at hs
  repeat' split at hs
  all_goals first | (cases hs; done) | exact (acall_inl hs).elim | exact (athr_inl hs).elim | (simp only [nx, Option.some.injEq, Sum.inl.injEq, Prod.mk.injEq] at hs; obtain ⟨rfl, rfl, rfl, rfl⟩ := hs)
  all_goals first
    | exact sd_i2b F hd k

theorem an_i2c (F : FR o X E d n0 s0 nE sE)  {pc' : Nat} {ls' : aLS} {st' : List Value} {h' : AH} (hd : decode E.2.1 pc = .ok (.i2c, ilen .i2c)) (hs : aex E d pc ls st h .i2c = some (.inl (pc', ls', st', h'))) (r1 : oO o + hN h' ≤ nE) (r2 : hS h' ≤ sE)
    (k : WG o X E.2.2.1 n0 s0 Q h' pc' ls' st') : WG o X E.2.2.1 n0 s0 Q h pc ls st := by
  dsimp only [aex] at hs
  repeat' split at hs
  all_goals first | (cases hs; done) | exact (acall_inl hs).elim | exact (athr_inl hs).elim | (simp only [nx, Option.some.injEq, Sum.inl.injEq, Prod.mk.injEq] at hs; obtain ⟨rfl, rfl, rfl, rfl⟩ := hs)
  all_goals first
    | exact sd_i2c F hd k

theorem an_idiv (F : FR o X E d n0 s0 nE sE)  {pc' : Nat} {ls' : aLS} {st' : List Value} {h' : AH} (hd : decode E.2.1 pc = .ok (.idiv, ilen .idiv)) (hs : aex E d pc ls st h .idiv = some (.inl (pc', ls', st', h'))) (r1 : oO o + hN h' ≤ nE) (r2 : hS h' ≤ sE)
    (k : WG o X E.2.2.1 n0 s0 Q h' pc' ls' st') : WG o X E.2.2.1 n0 s0 Q h pc ls st := by
  dsimp only [aex] at hs
  repeat' split at hs
  all_goals first | (cases hs; done) | exact (acall_inl hs).elim | exact (athr_inl hs).elim | (simp only [nx, Option.some.injEq, Sum.inl.injEq, Prod.mk.injEq] at hs; obtain ⟨rfl, rfl, rfl, rfl⟩ := hs)
  all_goals first
    | exact sd_idiv F hd (by assumption) k

theorem an_irem (F : FR o X E d n0 s0 nE sE)  {pc' : Nat} {ls' : aLS} {st' : List Value} {h' : AH} (hd : decode E.2.1 pc = .ok (.irem, ilen .irem)) (hs : aex E d pc ls st h .irem = some (.inl (pc', ls', st', h'))) (r1 : oO o + hN h' ≤ nE) (r2 : hS h' ≤ sE)
    (k : WG o X E.2.2.1 n0 s0 Q h' pc' ls' st') : WG o X E.2.2.1 n0 s0 Q h pc ls st := by
  dsimp only [aex] at hs
  repeat' split at hs
  all_goals first | (cases hs; done) | exact (acall_inl hs).elim | exact (athr_inl hs).elim | (simp only [nx, Option.some.injEq, Sum.inl.injEq, Prod.mk.injEq] at hs; obtain ⟨rfl, rfl, rfl, rfl⟩ := hs)
  all_goals first
    | exact sd_irem F hd (by assumption) k

theorem an_ldiv (F : FR o X E d n0 s0 nE sE)  {pc' : Nat} {ls' : aLS} {st' : List Value} {h' : AH} (hd : decode E.2.1 pc = .ok (.ldiv, ilen .ldiv)) (hs : aex E d pc ls st h .ldiv = some (.inl (pc', ls', st', h'))) (r1 : oO o + hN h' ≤ nE) (r2 : hS h' ≤ sE)
    (k : WG o X E.2.2.1 n0 s0 Q h' pc' ls' st') : WG o X E.2.2.1 n0 s0 Q h pc ls st := by
  dsimp only [aex] at hs
  repeat' split at hs
  all_goals first | (cases hs; done) | exact (acall_inl hs).elim | exact (athr_inl hs).elim | (simp only [nx, Option.some.injEq, Sum.inl.injEq, Prod.mk.injEq] at hs; obtain ⟨rfl, rfl, rfl, rfl⟩ := hs)
  all_goals first
    | exact sd_ldiv F hd (by assumption) k

theorem an_dup (F : FR o X E d n0 s0 nE sE)  {pc' : Nat} {ls' : aLS} {st' : List Value} {h' : AH} (hd : decode E.2.1 pc = .ok (.dup, ilen .dup)) (hs : aex E d pc ls st h .dup = some (.inl (pc', ls', st', h'))) (r1 : oO o + hN h' ≤ nE) (r2 : hS h' ≤ sE)
    (k : WG o X E.2.2.1 n0 s0 Q h' pc' ls' st') : WG o X E.2.2.1 n0 s0 Q h pc ls st := by
  dsimp only [aex] at hs
  repeat' split at hs
  all_goals first | (cases hs; done) | exact (acall_inl hs).elim | exact (athr_inl hs).elim | (simp only [nx, Option.some.injEq, Sum.inl.injEq, Prod.mk.injEq] at hs; obtain ⟨rfl, rfl, rfl, rfl⟩ := hs)
  all_goals first
    | exact sd_dup F (by assumption) hd k

theorem an_pop (F : FR o X E d n0 s0 nE sE)  {pc' : Nat} {ls' : aLS} {st' : List Value} {h' : AH} (hd : decode E.2.1 pc = .ok (.pop, ilen .pop)) (hs : aex E d pc ls st h .pop = some (.inl (pc', ls', st', h'))) (r1 : oO o + hN h' ≤ nE) (r2 : hS h' ≤ sE)
    (k : WG o X E.2.2.1 n0 s0 Q h' pc' ls' st') : WG o X E.2.2.1 n0 s0 Q h pc ls st := by
  dsimp only [aex] at hs
  repeat' split at hs
  all_goals first | (cases hs; done) | exact (acall_inl hs).elim | exact (athr_inl hs).elim | (simp only [nx, Option.some.injEq, Sum.inl.injEq, Prod.mk.injEq] at hs; obtain ⟨rfl, rfl, rfl, rfl⟩ := hs)
  all_goals first
    | exact sd_pop F (by assumption) hd k

theorem an_dup2 (F : FR o X E d n0 s0 nE sE)  {pc' : Nat} {ls' : aLS} {st' : List Value} {h' : AH} (hd : decode E.2.1 pc = .ok (.dup2, ilen .dup2)) (hs : aex E d pc ls st h .dup2 = some (.inl (pc', ls', st', h'))) (r1 : oO o + hN h' ≤ nE) (r2 : hS h' ≤ sE)
    (k : WG o X E.2.2.1 n0 s0 Q h' pc' ls' st') : WG o X E.2.2.1 n0 s0 Q h pc ls st := by
  dsimp only [aex] at hs
  repeat' split at hs
  all_goals first | (cases hs; done) | exact (acall_inl hs).elim | exact (athr_inl hs).elim | (simp only [nx, Option.some.injEq, Sum.inl.injEq, Prod.mk.injEq] at hs; obtain ⟨rfl, rfl, rfl, rfl⟩ := hs)
  all_goals first
    | exact sd_dup2_11 F (And.left (by assumption)) (And.right (by assumption)) hd k

theorem an_goto (F : FR o X E d n0 s0 nE sE) {n : Int} {pc' : Nat} {ls' : aLS} {st' : List Value} {h' : AH} (hd : decode E.2.1 pc = .ok ((.goto n), ilen (.goto n))) (hs : aex E d pc ls st h (.goto n) = some (.inl (pc', ls', st', h'))) (r1 : oO o + hN h' ≤ nE) (r2 : hS h' ≤ sE)
    (k : WG o X E.2.2.1 n0 s0 Q h' pc' ls' st') : WG o X E.2.2.1 n0 s0 Q h pc ls st := by
  dsimp only [aex] at hs
  repeat' split at hs
  all_goals first | (cases hs; done) | exact (acall_inl hs).elim | exact (athr_inl hs).elim | (simp only [nx, Option.some.injEq, Sum.inl.injEq, Prod.mk.injEq] at hs; obtain ⟨rfl, rfl, rfl, rfl⟩ := hs)
  all_goals first
    | exact sd_goto F hd (tgt_eq (by assumption)) k

theorem an_ifCond (F : FR o X E d n0 s0 nE sE) {c : ClassFile.Cond} {n : Int} {pc' : Nat} {ls' : aLS} {st' : List Value} {h' : AH} (hd : decode E.2.1 pc = .ok ((.ifCond c n), ilen (.ifCond c n))) (hs : aex E d pc ls st h (.ifCond c n) = some (.inl (pc', ls', st', h'))) (r1 : oO o + hN h' ≤ nE) (r2 : hS h' ≤ sE)
    (k : WG o X E.2.2.1 n0 s0 Q h' pc' ls' st') : WG o X E.2.2.1 n0 s0 Q h pc ls st := by
  dsimp only [aex] at hs
  repeat' split at hs
  all_goals first | (cases hs; done) | exact (acall_inl hs).elim | exact (athr_inl hs).elim | (simp only [nx, Option.some.injEq, Sum.inl.injEq, Prod.mk.injEq] at hs; obtain ⟨rfl, rfl, rfl, rfl⟩ := hs)
  all_goals first
    | exact sd_if F hd (tgt_eq (by assumption)) (by rw [if_pos (by assumption)]; exact k)
    | exact sd_if F hd (tgt_eq (by assumption)) (by rw [if_neg (by assumption)]; exact k)

theorem an_if_icmp (F : FR o X E d n0 s0 nE sE) {c : ClassFile.Cond} {n : Int} {pc' : Nat} {ls' : aLS} {st' : List Value} {h' : AH} (hd : decode E.2.1 pc = .ok ((.if_icmp c n), ilen (.if_icmp c n))) (hs : aex E d pc ls st h (.if_icmp c n) = some (.inl (pc', ls', st', h'))) (r1 : oO o + hN h' ≤ nE) (r2 : hS h' ≤ sE)
    (k : WG o X E.2.2.1 n0 s0 Q h' pc' ls' st') : WG o X E.2.2.1 n0 s0 Q h pc ls st := by
  dsimp only [aex] at hs
  repeat' split at hs
  all_goals first | (cases hs; done) | exact (acall_inl hs).elim | exact (athr_inl hs).elim | (simp only [nx, Option.some.injEq, Sum.inl.injEq, Prod.mk.injEq] at hs; obtain ⟨rfl, rfl, rfl, rfl⟩ := hs)
  all_goals first
    | exact sd_icmp F hd (tgt_eq (by assumption)) (by rw [if_pos (by assumption)]; exact k)
    | exact sd_icmp F hd (tgt_eq (by assumption)) (by rw [if_neg (by assumption)]; exact k)

theorem an_getfield (F : FR o X E d n0 s0 nE sE) {n : Nat} {pc' : Nat} {ls' : aLS} {st' : List Value} {h' : AH} (hd : decode E.2.1 pc = .ok ((.getfield n), ilen (.getfield n))) (hs : aex E d pc ls st h (.getfield n) = some (.inl (pc', ls', st', h'))) (r1 : oO o + hN h' ≤ nE) (r2 : hS h' ≤ sE)
    (k : WG o X E.2.2.1 n0 s0 Q h' pc' ls' st') : WG o X E.2.2.1 n0 s0 Q h pc ls st := by
  dsimp only [aex] at hs
  repeat' split at hs
  all_goals first | (cases hs; done) | exact (acall_inl hs).elim | exact (athr_inl hs).elim | (simp only [nx, Option.some.injEq, Sum.inl.injEq, Prod.mk.injEq] at hs; obtain ⟨rfl, rfl, rfl, rfl⟩ := hs)
  all_goals first
    | exact sd_getfield F hd (by assumption) (by assumption) k
    | exact sd_litgetU F (by assumption) hd (by assumption) (by rw [if_pos (by assumption)]; exact k)
    | exact sd_litgetU F (by assumption) hd (by assumption) (by rw [if_neg (by assumption)]; exact k)

theorem an_putfield (F : FR o X E d n0 s0 nE sE) {n : Nat} {pc' : Nat} {ls' : aLS} {st' : List Value} {h' : AH} (hd : decode E.2.1 pc = .ok ((.putfield n), ilen (.putfield n))) (hs : aex E d pc ls st h (.putfield n) = some (.inl (pc', ls', st', h'))) (r1 : oO o + hN h' ≤ nE) (r2 : hS h' ≤ sE)
    (k : WG o X E.2.2.1 n0 s0 Q h' pc' ls' st') : WG o X E.2.2.1 n0 s0 Q h pc ls st := by
  dsimp only [aex] at hs
  repeat' split at hs
  all_goals first | (cases hs; done) | exact (acall_inl hs).elim | exact (athr_inl hs).elim | (simp only [nx, Option.some.injEq, Sum.inl.injEq, Prod.mk.injEq] at hs; obtain ⟨rfl, rfl, rfl, rfl⟩ := hs)
  all_goals first
    | exact sd_putfield F hd (by assumption) (And.left (by assumption)) (And.left (And.right (by assumption))) (And.right (And.right (by assumption))) k

theorem an_getstatic (F : FR o X E d n0 s0 nE sE) {n : Nat} {pc' : Nat} {ls' : aLS} {st' : List Value} {h' : AH} (hd : decode E.2.1 pc = .ok ((.getstatic n), ilen (.getstatic n))) (hs : aex E d pc ls st h (.getstatic n) = some (.inl (pc', ls', st', h'))) (r1 : oO o + hN h' ≤ nE) (r2 : hS h' ≤ sE)
    (k : WG o X E.2.2.1 n0 s0 Q h' pc' ls' st') : WG o X E.2.2.1 n0 s0 Q h pc ls st := by
  dsimp only [aex] at hs
  repeat' split at hs
  all_goals first | (cases hs; done) | exact (acall_inl hs).elim | exact (athr_inl hs).elim | (simp only [nx, Option.some.injEq, Sum.inl.injEq, Prod.mk.injEq] at hs; obtain ⟨rfl, rfl, rfl, rfl⟩ := hs)
  all_goals first
    | exact sd_getstatic F hd (by assumption) k

theorem an_iaload (F : FR o X E d n0 s0 nE sE)  {pc' : Nat} {ls' : aLS} {st' : List Value} {h' : AH} (hd : decode E.2.1 pc = .ok (.iaload, ilen .iaload)) (hs : aex E d pc ls st h .iaload = some (.inl (pc', ls', st', h'))) (r1 : oO o + hN h' ≤ nE) (r2 : hS h' ≤ sE)
    (k : WG o X E.2.2.1 n0 s0 Q h' pc' ls' st') : WG o X E.2.2.1 n0 s0 Q h pc ls st := by
  dsimp only [aex] at hs
  repeat' split at hs
  all_goals first | (cases hs; done) | exact (acall_inl hs).elim | exact (athr_inl hs).elim | (simp only [nx, Option.some.injEq, Sum.inl.injEq, Prod.mk.injEq] at hs; obtain ⟨rfl, rfl, rfl, rfl⟩ := hs)
  all_goals first
    | exact sd_iaload F hd (And.left (by assumption)) (inb_vp (And.right (by assumption))) k
    | exact sd_sldU F (by assumption) hd k

theorem an_baload (F : FR o X E d n0 s0 nE sE)  {pc' : Nat} {ls' : aLS} {st' : List Value} {h' : AH} (hd : decode E.2.1 pc = .ok (.baload, ilen .baload)) (hs : aex E d pc ls st h .baload = some (.inl (pc', ls', st', h'))) (r1 : oO o + hN h' ≤ nE) (r2 : hS h' ≤ sE)
    (k : WG o X E.2.2.1 n0 s0 Q h' pc' ls' st') : WG o X E.2.2.1 n0 s0 Q h pc ls st := by
  dsimp only [aex] at hs
  repeat' split at hs
  all_goals first | (cases hs; done) | exact (acall_inl hs).elim | exact (athr_inl hs).elim | (simp only [nx, Option.some.injEq, Sum.inl.injEq, Prod.mk.injEq] at hs; obtain ⟨rfl, rfl, rfl, rfl⟩ := hs)
  all_goals first
    | exact sd_baload F hd (And.left (by assumption)) (inb_vp (And.right (by assumption))) k
    | exact sd_litaldU F (by assumption) hd k
    | exact sd_digit F (And.left (by assumption)) hd (inb_vp (And.right (by assumption))) k

theorem an_laload (F : FR o X E d n0 s0 nE sE)  {pc' : Nat} {ls' : aLS} {st' : List Value} {h' : AH} (hd : decode E.2.1 pc = .ok (.laload, ilen .laload)) (hs : aex E d pc ls st h .laload = some (.inl (pc', ls', st', h'))) (r1 : oO o + hN h' ≤ nE) (r2 : hS h' ≤ sE)
    (k : WG o X E.2.2.1 n0 s0 Q h' pc' ls' st') : WG o X E.2.2.1 n0 s0 Q h pc ls st := by
  dsimp only [aex] at hs
  repeat' split at hs
  all_goals first | (cases hs; done) | exact (acall_inl hs).elim | exact (athr_inl hs).elim | (simp only [nx, Option.some.injEq, Sum.inl.injEq, Prod.mk.injEq] at hs; obtain ⟨rfl, rfl, rfl, rfl⟩ := hs)
  all_goals first
    | exact sd_laload F hd (And.left (by assumption)) (inb_vp (And.right (by assumption))) k

theorem an_aaload (F : FR o X E d n0 s0 nE sE)  {pc' : Nat} {ls' : aLS} {st' : List Value} {h' : AH} (hd : decode E.2.1 pc = .ok (.aaload, ilen .aaload)) (hs : aex E d pc ls st h .aaload = some (.inl (pc', ls', st', h'))) (r1 : oO o + hN h' ≤ nE) (r2 : hS h' ≤ sE)
    (k : WG o X E.2.2.1 n0 s0 Q h' pc' ls' st') : WG o X E.2.2.1 n0 s0 Q h pc ls st := by
  dsimp only [aex] at hs
  repeat' split at hs
  all_goals first | (cases hs; done) | exact (acall_inl hs).elim | exact (athr_inl hs).elim | (simp only [nx, Option.some.injEq, Sum.inl.injEq, Prod.mk.injEq] at hs; obtain ⟨rfl, rfl, rfl, rfl⟩ := hs)
  all_goals first
    | exact sd_aaload F hd (And.left (by assumption)) (inb_vp (And.right (by assumption))) k
    | (rename_i hc; obtain ⟨rfl, hc2⟩ := hc; exact sd_vars F hd (inb_vp hc2) k)

theorem an_iastore (F : FR o X E d n0 s0 nE sE)  {pc' : Nat} {ls' : aLS} {st' : List Value} {h' : AH} (hd : decode E.2.1 pc = .ok (.iastore, ilen .iastore)) (hs : aex E d pc ls st h .iastore = some (.inl (pc', ls', st', h'))) (r1 : oO o + hN h' ≤ nE) (r2 : hS h' ≤ sE)
    (k : WG o X E.2.2.1 n0 s0 Q h' pc' ls' st') : WG o X E.2.2.1 n0 s0 Q h pc ls st := by
  dsimp only [aex] at hs
  repeat' split at hs
  all_goals first | (cases hs; done) | exact (acall_inl hs).elim | exact (athr_inl hs).elim | (simp only [nx, Option.some.injEq, Sum.inl.injEq, Prod.mk.injEq] at hs; obtain ⟨rfl, rfl, rfl, rfl⟩ := hs)
  all_goals first
    | exact sd_iastore F hd (And.left (by assumption)) (inb_vp (And.right (by assumption))) k

theorem an_bastore (F : FR o X E d n0 s0 nE sE)  {pc' : Nat} {ls' : aLS} {st' : List Value} {h' : AH} (hd : decode E.2.1 pc = .ok (.bastore, ilen .bastore)) (hs : aex E d pc ls st h .bastore = some (.inl (pc', ls', st', h'))) (r1 : oO o + hN h' ≤ nE) (r2 : hS h' ≤ sE)
    (k : WG o X E.2.2.1 n0 s0 Q h' pc' ls' st') : WG o X E.2.2.1 n0 s0 Q h pc ls st := by
  dsimp only [aex] at hs
  repeat' split at hs
  all_goals first | (cases hs; done) | exact (acall_inl hs).elim | exact (athr_inl hs).elim | (simp only [nx, Option.some.injEq, Sum.inl.injEq, Prod.mk.injEq] at hs; obtain ⟨rfl, rfl, rfl, rfl⟩ := hs)
  all_goals first
    | exact sd_bastore F hd (And.left (by assumption)) (inb_vp (And.right (by assumption))) k

theorem an_lastore (F : FR o X E d n0 s0 nE sE)  {pc' : Nat} {ls' : aLS} {st' : List Value} {h' : AH} (hd : decode E.2.1 pc = .ok (.lastore, ilen .lastore)) (hs : aex E d pc ls st h .lastore = some (.inl (pc', ls', st', h'))) (r1 : oO o + hN h' ≤ nE) (r2 : hS h' ≤ sE)
    (k : WG o X E.2.2.1 n0 s0 Q h' pc' ls' st') : WG o X E.2.2.1 n0 s0 Q h pc ls st := by
  dsimp only [aex] at hs
  repeat' split at hs
  all_goals first | (cases hs; done) | exact (acall_inl hs).elim | exact (athr_inl hs).elim | (simp only [nx, Option.some.injEq, Sum.inl.injEq, Prod.mk.injEq] at hs; obtain ⟨rfl, rfl, rfl, rfl⟩ := hs)
  all_goals first
    | exact sd_lastore F hd (And.left (by assumption)) (inb_vp (And.right (by assumption))) k

theorem an_aastore (F : FR o X E d n0 s0 nE sE)  {pc' : Nat} {ls' : aLS} {st' : List Value} {h' : AH} (hd : decode E.2.1 pc = .ok (.aastore, ilen .aastore)) (hs : aex E d pc ls st h .aastore = some (.inl (pc', ls', st', h'))) (r1 : oO o + hN h' ≤ nE) (r2 : hS h' ≤ sE)
    (k : WG o X E.2.2.1 n0 s0 Q h' pc' ls' st') : WG o X E.2.2.1 n0 s0 Q h pc ls st := by
  dsimp only [aex] at hs
  repeat' split at hs
  all_goals first | (cases hs; done) | exact (acall_inl hs).elim | exact (athr_inl hs).elim | (simp only [nx, Option.some.injEq, Sum.inl.injEq, Prod.mk.injEq] at hs; obtain ⟨rfl, rfl, rfl, rfl⟩ := hs)
  all_goals first
    | (rename_i hc; exact sd_aastore F hd hc.1 rfl hc.2.1 (inb_vp hc.2.2) k)
    | (rename_i hc; exact sd_aastoreI F hd hc.1 hc.2.1 (inb_vp hc.2.2) k)
    | (rename_i hc; exact sd_aastoreN F hd hc.1 rfl (inb_vp hc.2) k)

theorem an_arraylength (F : FR o X E d n0 s0 nE sE)  {pc' : Nat} {ls' : aLS} {st' : List Value} {h' : AH} (hd : decode E.2.1 pc = .ok (.arraylength, ilen .arraylength)) (hs : aex E d pc ls st h .arraylength = some (.inl (pc', ls', st', h'))) (r1 : oO o + hN h' ≤ nE) (r2 : hS h' ≤ sE)
    (k : WG o X E.2.2.1 n0 s0 Q h' pc' ls' st') : WG o X E.2.2.1 n0 s0 Q h pc ls st := by
  dsimp only [aex] at hs
  repeat' split at hs
  all_goals first | (cases hs; done) | exact (acall_inl hs).elim | exact (athr_inl hs).elim | (simp only [nx, Option.some.injEq, Sum.inl.injEq, Prod.mk.injEq] at hs; obtain ⟨rfl, rfl, rfl, rfl⟩ := hs)
  all_goals first
    | exact sd_arraylength F hd (by assumption) k
    | exact sd_slenU F (by assumption) hd k
    | exact sd_litlenU F (by assumption) hd k

theorem an_new (F : FR o X E d n0 s0 nE sE) {n : Nat} {pc' : Nat} {ls' : aLS} {st' : List Value} {h' : AH} (hd : decode E.2.1 pc = .ok ((.new n), ilen (.new n))) (hs : aex E d pc ls st h (.new n) = some (.inl (pc', ls', st', h'))) (r1 : oO o + hN h' ≤ nE) (r2 : hS h' ≤ sE)
    (k : WG o X E.2.2.1 n0 s0 Q h' pc' ls' st') : WG o X E.2.2.1 n0 s0 Q h pc ls st := by
  dsimp only [aex] at hs
  repeat' split at hs
  all_goals first | (cases hs; done) | exact (acall_inl hs).elim | exact (athr_inl hs).elim | (simp only [nx, Option.some.injEq, Sum.inl.injEq, Prod.mk.injEq] at hs; obtain ⟨rfl, rfl, rfl, rfl⟩ := hs)
  all_goals first
    | exact sd_new F hd (by assumption) r1 r2 k

theorem an_newarray (F : FR o X E d n0 s0 nE sE) {n : ArrayType} {pc' : Nat} {ls' : aLS} {st' : List Value} {h' : AH} (hd : decode E.2.1 pc = .ok ((.newarray n), ilen (.newarray n))) (hs : aex E d pc ls st h (.newarray n) = some (.inl (pc', ls', st', h'))) (r1 : oO o + hN h' ≤ nE) (r2 : hS h' ≤ sE)
    (k : WG o X E.2.2.1 n0 s0 Q h' pc' ls' st') : WG o X E.2.2.1 n0 s0 Q h pc ls st := by
  dsimp only [aex] at hs
  repeat' split at hs
  all_goals first | (cases hs; done) | exact (acall_inl hs).elim | exact (athr_inl hs).elim | (simp only [nx, Option.some.injEq, Sum.inl.injEq, Prod.mk.injEq] at hs; obtain ⟨rfl, rfl, rfl, rfl⟩ := hs)
  all_goals first
    | exact sd_newarray F hd (Or.inl ⟨rfl, rfl⟩) (fun z => ‹¬(_ ∨ _)› (Or.inl z)) (Nat.not_lt.mp fun z => ‹¬(_ ∨ _)› (Or.inr z)) r1 r2 k
    | exact sd_newarray F hd (Or.inr (Or.inl ⟨rfl, rfl⟩)) (fun z => ‹¬(_ ∨ _)› (Or.inl z)) (Nat.not_lt.mp fun z => ‹¬(_ ∨ _)› (Or.inr z)) r1 r2 k
    | exact sd_newarray F hd (Or.inr (Or.inr ⟨rfl, rfl⟩)) (fun z => ‹¬(_ ∨ _)› (Or.inl z)) (Nat.not_lt.mp fun z => ‹¬(_ ∨ _)› (Or.inr z)) r1 r2 k

theorem an_anewarray (F : FR o X E d n0 s0 nE sE) {n : Nat} {pc' : Nat} {ls' : aLS} {st' : List Value} {h' : AH} (hd : decode E.2.1 pc = .ok ((.anewarray n), ilen (.anewarray n))) (hs : aex E d pc ls st h (.anewarray n) = some (.inl (pc', ls', st', h'))) (r1 : oO o + hN h' ≤ nE) (r2 : hS h' ≤ sE)
    (k : WG o X E.2.2.1 n0 s0 Q h' pc' ls' st') : WG o X E.2.2.1 n0 s0 Q h pc ls st := by
  dsimp only [aex] at hs
  repeat' split at hs
  all_goals first | (cases hs; done) | exact (acall_inl hs).elim | exact (athr_inl hs).elim | (simp only [nx, Option.some.injEq, Sum.inl.injEq, Prod.mk.injEq] at hs; obtain ⟨rfl, rfl, rfl, rfl⟩ := hs)
  all_goals first
    | exact sd_anewarray F hd (by assumption) (by assumption) (fun z => ‹¬(_ < _ ∨ _ < _)› (Or.inl z)) (Nat.not_lt.mp fun z => ‹¬(_ < _ ∨ _ < _)› (Or.inr z)) r1 r2 k
    | exact sd_anewI F hd (by assumption) (by assumption) (fun z => ‹¬(_ < _ ∨ _ < _)› (Or.inl z)) (Nat.not_lt.mp fun z => ‹¬(_ < _ ∨ _ < _)› (Or.inr z)) r1 r2 k

theorem an_ldc (F : FR o X E d n0 s0 nE sE) {n : Nat} {pc' : Nat} {ls' : aLS} {st' : List Value} {h' : AH} (hd : decode E.2.1 pc = .ok ((.ldc n), ilen (.ldc n))) (hs : aex E d pc ls st h (.ldc n) = some (.inl (pc', ls', st', h'))) (r1 : oO o + hN h' ≤ nE) (r2 : hS h' ≤ sE)
    (k : WG o X E.2.2.1 n0 s0 Q h' pc' ls' st') : WG o X E.2.2.1 n0 s0 Q h pc ls st := by
  dsimp only [aex] at hs
  repeat' split at hs
  all_goals first | (cases hs; done) | exact (acall_inl hs).elim | exact (athr_inl hs).elim | (simp only [nx, Option.some.injEq, Sum.inl.injEq, Prod.mk.injEq] at hs; obtain ⟨rfl, rfl, rfl, rfl⟩ := hs)
  all_goals first
    | exact sd_ldc F hd (by assumption) k
    | exact sd_ldcS F hd (by assumption) k

theorem an_ldc2_w (F : FR o X E d n0 s0 nE sE) {n : Nat} {pc' : Nat} {ls' : aLS} {st' : List Value} {h' : AH} (hd : decode E.2.1 pc = .ok ((.ldc2_w n), ilen (.ldc2_w n))) (hs : aex E d pc ls st h (.ldc2_w n) = some (.inl (pc', ls', st', h'))) (r1 : oO o + hN h' ≤ nE) (r2 : hS h' ≤ sE)
    (k : WG o X E.2.2.1 n0 s0 Q h' pc' ls' st') : WG o X E.2.2.1 n0 s0 Q h pc ls st := by
  dsimp only [aex] at hs
  repeat' split at hs
  all_goals first | (cases hs; done) | exact (acall_inl hs).elim | exact (athr_inl hs).elim | (simp only [nx, Option.some.injEq, Sum.inl.injEq, Prod.mk.injEq] at hs; obtain ⟨rfl, rfl, rfl, rfl⟩ := hs)
  all_goals first
    | exact sd_ldc2 F hd (by assumption) k

theorem an_invokestatic (F : FR o X E d n0 s0 nE sE) {n : Nat} {pc' : Nat} {ls' : aLS} {st' : List Value} {h' : AH} (hd : decode E.2.1 pc = .ok ((.invokestatic n), ilen (.invokestatic n))) (hs : aex E d pc ls st h (.invokestatic n) = some (.inl (pc', ls', st', h'))) (r1 : oO o + hN h' ≤ nE) (r2 : hS h' ≤ sE)
    (k : WG o X E.2.2.1 n0 s0 Q h' pc' ls' st') : WG o X E.2.2.1 n0 s0 Q h pc ls st := by
  dsimp only [aex] at hs
  repeat' split at hs
  all_goals first | (cases hs; done) | exact (acall_inl hs).elim | exact (athr_inl hs).elim | (simp only [nx, Option.some.injEq, Sum.inl.injEq, Prod.mk.injEq] at hs; obtain ⟨rfl, rfl, rfl, rfl⟩ := hs)
  all_goals first
    | exact sd_max F rfl hd (by assumption) (Nat.pos_of_ne_zero (by assumption)) (len_cat (by assumption)) (by rw [if_pos (by assumption)]; exact k) r1 r2
    | exact sd_max F rfl hd (by assumption) (Nat.pos_of_ne_zero (by assumption)) (len_cat (by assumption)) (by rw [if_neg (by assumption)]; exact k) r1 r2
    | exact sd_min F rfl hd (by assumption) (Nat.pos_of_ne_zero (by assumption)) (len_cat (by assumption)) (by rw [if_pos (by assumption)]; exact k) r1 r2
    | exact sd_min F rfl hd (by assumption) (Nat.pos_of_ne_zero (by assumption)) (len_cat (by assumption)) (by rw [if_neg (by assumption)]; exact k) r1 r2
    | (rename_i hc; obtain ⟨c1, rfl, rfl, c4, c5, c6, c7, c8⟩ := hc; exact sd_acopy F rfl hd (by assumption) (Nat.pos_of_ne_zero (by assumption)) (len_cat c1) c4 c5 c6 c7 c8 k)
    | (rename_i hc; obtain ⟨c1, c2, c3, c4, c5, c6, c7, c8, c9⟩ := hc; exact sd_bcopy F rfl hd (by assumption) (Nat.pos_of_ne_zero (by assumption)) (len_cat c1) c2 c3 c4 c5 c6 c7 c8 c9 k)
    | (rename_i hc; obtain ⟨c1, c2, c3, c4, c5, c6, c7, c8, c9⟩ := hc; exact sd_lcopyU F c2 rfl hd (by assumption) (Nat.pos_of_ne_zero (by assumption)) (len_cat c1) c3 c4 c5 c6 c7 c8 c9 k)
    | exact sd_maxL F rfl hd (by assumption) (Nat.pos_of_ne_zero (by assumption)) (len_cat (by assumption)) (by rw [if_pos (by assumption)]; exact k) r1 r2
    | exact sd_maxL F rfl hd (by assumption) (Nat.pos_of_ne_zero (by assumption)) (len_cat (by assumption)) (by rw [if_neg (by assumption)]; exact k) r1 r2
    | exact sd_minL F rfl hd (by assumption) (Nat.pos_of_ne_zero (by assumption)) (len_cat (by assumption)) (by rw [if_pos (by assumption)]; exact k) r1 r2
    | exact sd_minL F rfl hd (by assumption) (Nat.pos_of_ne_zero (by assumption)) (len_cat (by assumption)) (by rw [if_neg (by assumption)]; exact k) r1 r2

theorem an_invokevirtual (F : FR o X E d n0 s0 nE sE) {n : Nat} {pc' : Nat} {ls' : aLS} {st' : List Value} {h' : AH} (hd : decode E.2.1 pc = .ok ((.invokevirtual n), ilen (.invokevirtual n))) (hs : aex E d pc ls st h (.invokevirtual n) = some (.inl (pc', ls', st', h'))) (r1 : oO o + hN h' ≤ nE) (r2 : hS h' ≤ sE)
    (k : WG o X E.2.2.1 n0 s0 Q h' pc' ls' st') : WG o X E.2.2.1 n0 s0 Q h pc ls st := by
  dsimp only [aex] at hs
  repeat' split at hs
  all_goals first | (cases hs; done) | exact (acall_inl hs).elim | exact (athr_inl hs).elim | (simp only [nx, Option.some.injEq, Sum.inl.injEq, Prod.mk.injEq] at hs; obtain ⟨rfl, rfl, rfl, rfl⟩ := hs)
  · rename_i hc
    exact sd_clone F rfl hd (by assumption) (Nat.pos_of_ne_zero (by assumption)) (len_cat hc.1) (Or.inl ⟨rfl, rfl, rfl, rfl⟩) hc.2 (fun q => by cases q) r1 r2 k
  · rename_i hc
    exact sd_clone F rfl hd (by assumption) (Nat.pos_of_ne_zero (by assumption)) (len_cat hc.1) (Or.inr ⟨rfl, rfl, rfl, rfl⟩) hc.2.1 (fun _ => hc.2.2) r1 r2 k


theorem an_invokespecial (F : FR o X E d n0 s0 nE sE) {n : Nat} {pc' : Nat} {ls' : aLS} {st' : List Value} {h' : AH} (hd : decode E.2.1 pc = .ok ((.invokespecial n), ilen (.invokespecial n))) (hs : aex E d pc ls st h (.invokespecial n) = some (.inl (pc', ls', st', h'))) (r1 : oO o + hN h' ≤ nE) (r2 : hS h' ≤ sE)
    (k : WG o X E.2.2.1 n0 s0 Q h' pc' ls' st') : WG o X E.2.2.1 n0 s0 Q h pc ls st := by
  dsimp only [aex] at hs
  repeat' split at hs
  all_goals first | (cases hs; done) | exact (acall_inl hs).elim | exact (athr_inl hs).elim | (simp only [nx, Option.some.injEq, Sum.inl.injEq, Prod.mk.injEq] at hs; obtain ⟨rfl, rfl, rfl, rfl⟩ := hs)
  all_goals first
    | exact sd_objinit F rfl hd (by assumption) (Nat.pos_of_ne_zero (by assumption)) (len_cat (by assumption)) k

theorem an_ireturn (F : FR o X E d n0 s0 nE sE)  {pc' : Nat} {ls' : aLS} {st' : List Value} {h' : AH} (hd : decode E.2.1 pc = .ok (.ireturn, ilen .ireturn)) (hs : aex E d pc ls st h .ireturn = some (.inl (pc', ls', st', h'))) (r1 : oO o + hN h' ≤ nE) (r2 : hS h' ≤ sE)
    (k : WG o X E.2.2.1 n0 s0 Q h' pc' ls' st') : WG o X E.2.2.1 n0 s0 Q h pc ls st := by
  dsimp only [aex] at hs
  repeat' split at hs
  all_goals first | (cases hs; done) | exact (acall_inl hs).elim | exact (athr_inl hs).elim | (simp only [nx, Option.some.injEq, Sum.inl.injEq, Prod.mk.injEq] at hs; obtain ⟨rfl, rfl, rfl, rfl⟩ := hs)

theorem an_lreturn (F : FR o X E d n0 s0 nE sE)  {pc' : Nat} {ls' : aLS} {st' : List Value} {h' : AH} (hd : decode E.2.1 pc = .ok (.lreturn, ilen .lreturn)) (hs : aex E d pc ls st h .lreturn = some (.inl (pc', ls', st', h'))) (r1 : oO o + hN h' ≤ nE) (r2 : hS h' ≤ sE)
    (k : WG o X E.2.2.1 n0 s0 Q h' pc' ls' st') : WG o X E.2.2.1 n0 s0 Q h pc ls st := by
  dsimp only [aex] at hs
  repeat' split at hs
  all_goals first | (cases hs; done) | exact (acall_inl hs).elim | exact (athr_inl hs).elim | (simp only [nx, Option.some.injEq, Sum.inl.injEq, Prod.mk.injEq] at hs; obtain ⟨rfl, rfl, rfl, rfl⟩ := hs)

theorem an_return_ (F : FR o X E d n0 s0 nE sE)  {pc' : Nat} {ls' : aLS} {st' : List Value} {h' : AH} (hd : decode E.2.1 pc = .ok (.return_, ilen .return_)) (hs : aex E d pc ls st h .return_ = some (.inl (pc', ls', st', h'))) (r1 : oO o + hN h' ≤ nE) (r2 : hS h' ≤ sE)
    (k : WG o X E.2.2.1 n0 s0 Q h' pc' ls' st') : WG o X E.2.2.1 n0 s0 Q h pc ls st := by
  dsimp only [aex] at hs
  repeat' split at hs
  all_goals first | (cases hs; done) | exact (acall_inl hs).elim | exact (athr_inl hs).elim | (simp only [nx, Option.some.injEq, Sum.inl.injEq, Prod.mk.injEq] at hs; obtain ⟨rfl, rfl, rfl, rfl⟩ := hs)

theorem an_aconst_null (F : FR o X E d n0 s0 nE sE)  {pc' : Nat} {ls' : aLS} {st' : List Value} {h' : AH} (hd : decode E.2.1 pc = .ok (.aconst_null, ilen .aconst_null)) (hs : aex E d pc ls st h .aconst_null = some (.inl (pc', ls', st', h'))) (r1 : oO o + hN h' ≤ nE) (r2 : hS h' ≤ sE)
    (k : WG o X E.2.2.1 n0 s0 Q h' pc' ls' st') : WG o X E.2.2.1 n0 s0 Q h pc ls st := by
  dsimp only [aex] at hs
  repeat' split at hs
  all_goals first | (cases hs; done) | exact (acall_inl hs).elim | exact (athr_inl hs).elim | (simp only [nx, Option.some.injEq, Sum.inl.injEq, Prod.mk.injEq] at hs; obtain ⟨rfl, rfl, rfl, rfl⟩ := hs)
  all_goals exact sd_null F hd k
theorem an_checkcast (F : FR o X E d n0 s0 nE sE) {n : Nat} {pc' : Nat} {ls' : aLS} {st' : List Value} {h' : AH} (hd : decode E.2.1 pc = .ok ((.checkcast n), ilen (.checkcast n))) (hs : aex E d pc ls st h (.checkcast n) = some (.inl (pc', ls', st', h'))) (r1 : oO o + hN h' ≤ nE) (r2 : hS h' ≤ sE)
    (k : WG o X E.2.2.1 n0 s0 Q h' pc' ls' st') : WG o X E.2.2.1 n0 s0 Q h pc ls st := by
  dsimp only [aex] at hs
  repeat' split at hs
  all_goals first | (cases hs; done) | exact (acall_inl hs).elim | exact (athr_inl hs).elim | (simp only [nx, Option.some.injEq, Sum.inl.injEq, Prod.mk.injEq] at hs; obtain ⟨rfl, rfl, rfl, rfl⟩ := hs)
  all_goals exact sd_cast F hd (by assumption) (by assumption) k
theorem an_ifnonnull (F : FR o X E d n0 s0 nE sE) {n : Int} {pc' : Nat} {ls' : aLS} {st' : List Value} {h' : AH} (hd : decode E.2.1 pc = .ok ((.ifnonnull n), ilen (.ifnonnull n))) (hs : aex E d pc ls st h (.ifnonnull n) = some (.inl (pc', ls', st', h'))) (r1 : oO o + hN h' ≤ nE) (r2 : hS h' ≤ sE)
    (k : WG o X E.2.2.1 n0 s0 Q h' pc' ls' st') : WG o X E.2.2.1 n0 s0 Q h pc ls st := by
  dsimp only [aex] at hs
  repeat' split at hs
  all_goals first | (cases hs; done) | exact (acall_inl hs).elim | exact (athr_inl hs).elim | (simp only [nx, Option.some.injEq, Sum.inl.injEq, Prod.mk.injEq] at hs; obtain ⟨rfl, rfl, rfl, rfl⟩ := hs)
  all_goals first
    | exact sd_ifnonnull F (by assumption) hd (tgt_eq (by assumption)) (by rw [if_pos (by assumption)]; exact k)
    | exact sd_ifnonnull F (by assumption) hd (tgt_eq (by assumption)) (by rw [if_neg (by assumption)]; exact k)
theorem an_areturn (F : FR o X E d n0 s0 nE sE)  {pc' : Nat} {ls' : aLS} {st' : List Value} {h' : AH} (hd : decode E.2.1 pc = .ok (.areturn, ilen .areturn)) (hs : aex E d pc ls st h .areturn = some (.inl (pc', ls', st', h'))) (r1 : oO o + hN h' ≤ nE) (r2 : hS h' ≤ sE)
    (k : WG o X E.2.2.1 n0 s0 Q h' pc' ls' st') : WG o X E.2.2.1 n0 s0 Q h pc ls st := by
  dsimp only [aex] at hs
  repeat' split at hs
  all_goals first | (cases hs; done) | exact (acall_inl hs).elim | exact (athr_inl hs).elim | (simp only [nx, Option.some.injEq, Sum.inl.injEq, Prod.mk.injEq] at hs; obtain ⟨rfl, rfl, rfl, rfl⟩ := hs)

theorem an_tableswitch (F : FR o X E d n0 s0 nE sE) {df lo hi : Int} {offs : Array Int} {len pc' : Nat} {ls' : aLS} {st' : List Value} {h' : AH} (hd : decode E.2.1 pc = .ok (.tableswitch df lo hi offs, len)) (hs : aex E d pc ls st h (.tableswitch df lo hi offs) = some (.inl (pc', ls', st', h')))
    (k : WG o X E.2.2.1 n0 s0 Q h' pc' ls' st') : WG o X E.2.2.1 n0 s0 Q h pc ls st := by
  replace hs : (match st with | .int x :: t => (match (if x.toInt < lo ∨ hi < x.toInt then tgt? pc df else (offs[(x.toInt - lo).toNat]?).bind (tgt? pc)) with | some g => nx g ls t h | none => none) | _ => none) = some (.inl (pc', ls', st', h')) := hs
  split at hs
  · rename_i x t
    split at hs
    · rename_i g hg
      simp only [nx, Option.some.injEq, Sum.inl.injEq, Prod.mk.injEq] at hs
      obtain ⟨rfl, rfl, rfl, rfl⟩ := hs
      refine sd_tsw F hd (tgt := g) ?_ k
      by_cases hc : x.toInt < lo ∨ hi < x.toInt
      · rw [if_pos hc] at hg ⊢
        exact congrArg some (tgt_eq hg)
      · rw [if_neg hc] at hg ⊢
        cases ho : offs[(x.toInt - lo).toNat]? with
        | none => rw [ho] at hg; cases hg
        | some off => rw [ho] at hg; exact congrArg some (tgt_eq hg)
    · cases hs
  · cases hs
theorem an_multi (F : FR o X E d n0 s0 nE sE) {i m pc' : Nat} {ls' : aLS} {st' : List Value} {h' : AH} (hd : decode E.2.1 pc = .ok (.multianewarray i m, ilen (.multianewarray i m))) (hs : aex E d pc ls st h (.multianewarray i m) = some (.inl (pc', ls', st', h'))) (r1 : oO o + hN h' ≤ nE) (r2 : hS h' ≤ sE)
    (k : WG o X E.2.2.1 n0 s0 Q h' pc' ls' st') : WG o X E.2.2.1 n0 s0 Q h pc ls st := by
  dsimp only [aex] at hs
  by_cases hm : m = 2
  · subst hm
    rw [if_pos rfl] at hs
    split at hs
    · split at hs
      · rename_i hl
        split at hs
        · cases hs
        · rename_i hc
          simp only [nx, Option.some.injEq, Sum.inl.injEq, Prod.mk.injEq] at hs
          obtain ⟨rfl, rfl, rfl, rfl⟩ := hs
          have ok := all_of mnaT_ok (look_mem hl)
          simp only [decide_eq_true_eq] at ok
          exact sd_multi F hd ok (fun z => hc (Or.inl z)) (fun z => hc (Or.inr (Or.inl z))) (Nat.not_lt.mp fun z => hc (Or.inr (Or.inr (Or.inl z)))) (Nat.not_lt.mp fun z => hc (Or.inr (Or.inr (Or.inr z)))) r1 r2 k
      · cases hs
    · cases hs
  · rw [if_neg hm] at hs
    cases hs

set_option maxHeartbeats 8000000 in
theorem aex_next (F : FR o X E d n0 s0 nE sE) {i : Instr} {len pc' : Nat} {ls' : aLS} {st' : List Value} {h' : AH} (hd : decode E.2.1 pc = .ok (i, len)) (hl : len = ilen i ∨ ilen i = 100) (hs : aex E d pc ls st h i = some (.inl (pc', ls', st', h'))) (r1 : oO o + hN h' ≤ nE) (r2 : hS h' ≤ sE)
    (k : WG o X E.2.2.1 n0 s0 Q h' pc' ls' st') : WG o X E.2.2.1 n0 s0 Q h pc ls st := by
  cases i
  case tableswitch => exact an_tableswitch F hd hs k
  case multianewarray => exact an_multi F (by rcases hl with hl | hl; exact hl ▸ hd; cases hl) hs r1 r2 k
  case iconst => exact an_iconst F (by rcases hl with hl | hl; exact hl ▸ hd; cases hl) hs r1 r2 k
  case bipush => exact an_bipush F (by rcases hl with hl | hl; exact hl ▸ hd; cases hl) hs r1 r2 k
  case sipush => exact an_sipush F (by rcases hl with hl | hl; exact hl ▸ hd; cases hl) hs r1 r2 k
  case lconst => exact an_lconst F (by rcases hl with hl | hl; exact hl ▸ hd; cases hl) hs r1 r2 k
  case iload_n => exact an_iload_n F (by rcases hl with hl | hl; exact hl ▸ hd; cases hl) hs r1 r2 k
  case iload => exact an_iload F (by rcases hl with hl | hl; exact hl ▸ hd; cases hl) hs r1 r2 k
  case lload_n => exact an_lload_n F (by rcases hl with hl | hl; exact hl ▸ hd; cases hl) hs r1 r2 k
  case lload => exact an_lload F (by rcases hl with hl | hl; exact hl ▸ hd; cases hl) hs r1 r2 k
  case aload_n => exact an_aload_n F (by rcases hl with hl | hl; exact hl ▸ hd; cases hl) hs r1 r2 k
  case aload => exact an_aload F (by rcases hl with hl | hl; exact hl ▸ hd; cases hl) hs r1 r2 k
  case istore_n => exact an_istore_n F (by rcases hl with hl | hl; exact hl ▸ hd; cases hl) hs r1 r2 k
  case istore => exact an_istore F (by rcases hl with hl | hl; exact hl ▸ hd; cases hl) hs r1 r2 k
  case lstore_n => exact an_lstore_n F (by rcases hl with hl | hl; exact hl ▸ hd; cases hl) hs r1 r2 k
  case lstore => exact an_lstore F (by rcases hl with hl | hl; exact hl ▸ hd; cases hl) hs r1 r2 k
  case astore_n => exact an_astore_n F (by rcases hl with hl | hl; exact hl ▸ hd; cases hl) hs r1 r2 k
  case astore => exact an_astore F (by rcases hl with hl | hl; exact hl ▸ hd; cases hl) hs r1 r2 k
  case iinc => exact an_iinc F (by rcases hl with hl | hl; exact hl ▸ hd; cases hl) hs r1 r2 k
  case iadd => exact an_iadd F (by rcases hl with hl | hl; exact hl ▸ hd; cases hl) hs r1 r2 k
  case isub => exact an_isub F (by rcases hl with hl | hl; exact hl ▸ hd; cases hl) hs r1 r2 k
  case imul => exact an_imul F (by rcases hl with hl | hl; exact hl ▸ hd; cases hl) hs r1 r2 k
  case ineg => exact an_ineg F (by rcases hl with hl | hl; exact hl ▸ hd; cases hl) hs r1 r2 k
  case iand => exact an_iand F (by rcases hl with hl | hl; exact hl ▸ hd; cases hl) hs r1 r2 k
  case ior => exact an_ior F (by rcases hl with hl | hl; exact hl ▸ hd; cases hl) hs r1 r2 k
  case ishl => exact an_ishl F (by rcases hl with hl | hl; exact hl ▸ hd; cases hl) hs r1 r2 k
  case ishr => exact an_ishr F (by rcases hl with hl | hl; exact hl ▸ hd; cases hl) hs r1 r2 k
  case iushr => exact an_iushr F (by rcases hl with hl | hl; exact hl ▸ hd; cases hl) hs r1 r2 k
  case ladd => exact an_ladd F (by rcases hl with hl | hl; exact hl ▸ hd; cases hl) hs r1 r2 k
  case lsub => exact an_lsub F (by rcases hl with hl | hl; exact hl ▸ hd; cases hl) hs r1 r2 k
  case lmul => exact an_lmul F (by rcases hl with hl | hl; exact hl ▸ hd; cases hl) hs r1 r2 k
  case lcmp => exact an_lcmp F (by rcases hl with hl | hl; exact hl ▸ hd; cases hl) hs r1 r2 k
  case i2l => exact an_i2l F (by rcases hl with hl | hl; exact hl ▸ hd; cases hl) hs r1 r2 k
  case l2i => exact an_l2i F (by rcases hl with hl | hl; exact hl ▸ hd; cases hl) hs r1 r2 k
  case i2b => exact an_i2b F (by rcases hl with hl | hl; exact hl ▸ hd; cases hl) hs r1 r2 k
  case i2c => exact an_i2c F (by rcases hl with hl | hl; exact hl ▸ hd; cases hl) hs r1 r2 k
  case idiv => exact an_idiv F (by rcases hl with hl | hl; exact hl ▸ hd; cases hl) hs r1 r2 k
  case irem => exact an_irem F (by rcases hl with hl | hl; exact hl ▸ hd; cases hl) hs r1 r2 k
  case ldiv => exact an_ldiv F (by rcases hl with hl | hl; exact hl ▸ hd; cases hl) hs r1 r2 k
  case dup => exact an_dup F (by rcases hl with hl | hl; exact hl ▸ hd; cases hl) hs r1 r2 k
  case pop => exact an_pop F (by rcases hl with hl | hl; exact hl ▸ hd; cases hl) hs r1 r2 k
  case dup2 => exact an_dup2 F (by rcases hl with hl | hl; exact hl ▸ hd; cases hl) hs r1 r2 k
  case goto => exact an_goto F (by rcases hl with hl | hl; exact hl ▸ hd; cases hl) hs r1 r2 k
  case ifCond => exact an_ifCond F (by rcases hl with hl | hl; exact hl ▸ hd; cases hl) hs r1 r2 k
  case if_icmp => exact an_if_icmp F (by rcases hl with hl | hl; exact hl ▸ hd; cases hl) hs r1 r2 k
  case getfield => exact an_getfield F (by rcases hl with hl | hl; exact hl ▸ hd; cases hl) hs r1 r2 k
  case putfield => exact an_putfield F (by rcases hl with hl | hl; exact hl ▸ hd; cases hl) hs r1 r2 k
  case getstatic => exact an_getstatic F (by rcases hl with hl | hl; exact hl ▸ hd; cases hl) hs r1 r2 k
  case iaload => exact an_iaload F (by rcases hl with hl | hl; exact hl ▸ hd; cases hl) hs r1 r2 k
  case baload => exact an_baload F (by rcases hl with hl | hl; exact hl ▸ hd; cases hl) hs r1 r2 k
  case laload => exact an_laload F (by rcases hl with hl | hl; exact hl ▸ hd; cases hl) hs r1 r2 k
  case aaload => exact an_aaload F (by rcases hl with hl | hl; exact hl ▸ hd; cases hl) hs r1 r2 k
  case iastore => exact an_iastore F (by rcases hl with hl | hl; exact hl ▸ hd; cases hl) hs r1 r2 k
  case bastore => exact an_bastore F (by rcases hl with hl | hl; exact hl ▸ hd; cases hl) hs r1 r2 k
  case lastore => exact an_lastore F (by rcases hl with hl | hl; exact hl ▸ hd; cases hl) hs r1 r2 k
  case aastore => exact an_aastore F (by rcases hl with hl | hl; exact hl ▸ hd; cases hl) hs r1 r2 k
  case arraylength => exact an_arraylength F (by rcases hl with hl | hl; exact hl ▸ hd; cases hl) hs r1 r2 k
  case new => exact an_new F (by rcases hl with hl | hl; exact hl ▸ hd; cases hl) hs r1 r2 k
  case newarray => exact an_newarray F (by rcases hl with hl | hl; exact hl ▸ hd; cases hl) hs r1 r2 k
  case anewarray => exact an_anewarray F (by rcases hl with hl | hl; exact hl ▸ hd; cases hl) hs r1 r2 k
  case ldc => exact an_ldc F (by rcases hl with hl | hl; exact hl ▸ hd; cases hl) hs r1 r2 k
  case ldc2_w => exact an_ldc2_w F (by rcases hl with hl | hl; exact hl ▸ hd; cases hl) hs r1 r2 k
  case invokestatic => exact an_invokestatic F (by rcases hl with hl | hl; exact hl ▸ hd; cases hl) hs r1 r2 k
  case invokevirtual => exact an_invokevirtual F (by rcases hl with hl | hl; exact hl ▸ hd; cases hl) hs r1 r2 k
  case invokespecial => exact an_invokespecial F (by rcases hl with hl | hl; exact hl ▸ hd; cases hl) hs r1 r2 k
  case ireturn => exact an_ireturn F (by rcases hl with hl | hl; exact hl ▸ hd; cases hl) hs r1 r2 k
  case lreturn => exact an_lreturn F (by rcases hl with hl | hl; exact hl ▸ hd; cases hl) hs r1 r2 k
  case aconst_null => exact an_aconst_null F (by rcases hl with hl | hl; exact hl ▸ hd; cases hl) hs r1 r2 k
  case checkcast => exact an_checkcast F (by rcases hl with hl | hl; exact hl ▸ hd; cases hl) hs r1 r2 k
  case ifnonnull => exact an_ifnonnull F (by rcases hl with hl | hl; exact hl ▸ hd; cases hl) hs r1 r2 k
  case areturn => exact an_areturn F (by rcases hl with hl | hl; exact hl ▸ hd; cases hl) hs r1 r2 k
  case return_ => exact an_return_ F (by rcases hl with hl | hl; exact hl ▸ hd; cases hl) hs r1 r2 k
  all_goals exact absurd (show none = some _ from hs) (fun z => nomatch z)
end P5
