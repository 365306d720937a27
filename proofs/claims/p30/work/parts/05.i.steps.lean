/-! SOUNDNESS, part 8: what a step can give; the heap only grows -/
section P8
variable {E : MI} {d pc : Nat} {ls : aLS} {st : List Value} {h : AH}

theorem am_iconst {n : Int} {pc' : Nat} {ls' : aLS} {st' : List Value} {h' : AH} (hs : aex E d pc ls st h (.iconst n) = some (.inl (pc', ls', st', h'))) : hN h ≤ hN h' ∧ hS h ≤ hS h' := by
  dsimp only [aex] at hs
  repeat' split at hs
  all_goals first | (cases hs; done) | exact (acall_inl hs).elim | exact (athr_inl hs).elim | (simp only [nx, Option.some.injEq, Sum.inl.injEq, Prod.mk.injEq] at hs; obtain ⟨rfl, rfl, rfl, rfl⟩ := hs)
  all_goals exact ⟨Nat.le_of_sub_eq_zero (by first | exact Nat.sub_self _ | exact Nat.sub_eq_zero_of_le (Nat.le_succ _)), by first | exact Nat.le_refl _ | exact Nat.le_add_right _ _⟩

theorem am_bipush {n : Int} {pc' : Nat} {ls' : aLS} {st' : List Value} {h' : AH} (hs : aex E d pc ls st h (.bipush n) = some (.inl (pc', ls', st', h'))) : hN h ≤ hN h' ∧ hS h ≤ hS h' := by
  dsimp only [aex] at hs
  repeat' split at hs
  all_goals first | (cases hs; done) | exact (acall_inl hs).elim | exact (athr_inl hs).elim | (simp only [nx, Option.some.injEq, Sum.inl.injEq, Prod.mk.injEq] at hs; obtain ⟨rfl, rfl, rfl, rfl⟩ := hs)
  all_goals exact ⟨Nat.le_of_sub_eq_zero (by first | exact Nat.sub_self _ | exact Nat.sub_eq_zero_of_le (Nat.le_succ _)), by first | exact Nat.le_refl _ | exact Nat.le_add_right _ _⟩

theorem am_sipush {n : Int} {pc' : Nat} {ls' : aLS} {st' : List Value} {h' : AH} (hs : aex E d pc ls st h (.sipush n) = some (.inl (pc', ls', st', h'))) : hN h ≤ hN h' ∧ hS h ≤ hS h' := by
  dsimp only [aex] at hs
  repeat' split at hs
  all_goals first | (cases hs; done) | exact (acall_inl hs).elim | exact (athr_inl hs).elim | (simp only [nx, Option.some.injEq, Sum.inl.injEq, Prod.mk.injEq] at hs; obtain ⟨rfl, rfl, rfl, rfl⟩ := hs)
  all_goals exact ⟨Nat.le_of_sub_eq_zero (by first | exact Nat.sub_self _ | exact Nat.sub_eq_zero_of_le (Nat.le_succ _)), by first | exact Nat.le_refl _ | exact Nat.le_add_right _ _⟩

theorem am_lconst {n : Fin 2} {pc' : Nat} {ls' : aLS} {st' : List Value} {h' : AH} (hs : aex E d pc ls st h (.lconst n) = some (.inl (pc', ls', st', h'))) : hN h ≤ hN h' ∧ hS h ≤ hS h' := by
  dsimp only [aex] at hs
  repeat' split at hs
  all_goals first | (cases hs; done) | exact (acall_inl hs).elim | exact (athr_inl hs).elim | (simp only [nx, Option.some.injEq, Sum.inl.injEq, Prod.mk.injEq] at hs; obtain ⟨rfl, rfl, rfl, rfl⟩ := hs)
  all_goals exact ⟨Nat.le_of_sub_eq_zero (by first | exact Nat.sub_self _ | exact Nat.sub_eq_zero_of_le (Nat.le_succ _)), by first | exact Nat.le_refl _ | exact Nat.le_add_right _ _⟩

theorem am_iload_n {n : Fin 4} {pc' : Nat} {ls' : aLS} {st' : List Value} {h' : AH} (hs : aex E d pc ls st h (.iload_n n) = some (.inl (pc', ls', st', h'))) : hN h ≤ hN h' ∧ hS h ≤ hS h' := by
  dsimp only [aex] at hs
  repeat' split at hs
  all_goals first | (cases hs; done) | exact (acall_inl hs).elim | exact (athr_inl hs).elim | (simp only [nx, Option.some.injEq, Sum.inl.injEq, Prod.mk.injEq] at hs; obtain ⟨rfl, rfl, rfl, rfl⟩ := hs)
  all_goals exact ⟨Nat.le_of_sub_eq_zero (by first | exact Nat.sub_self _ | exact Nat.sub_eq_zero_of_le (Nat.le_succ _)), by first | exact Nat.le_refl _ | exact Nat.le_add_right _ _⟩

theorem am_iload {n : Nat} {pc' : Nat} {ls' : aLS} {st' : List Value} {h' : AH} (hs : aex E d pc ls st h (.iload n) = some (.inl (pc', ls', st', h'))) : hN h ≤ hN h' ∧ hS h ≤ hS h' := by
  dsimp only [aex] at hs
  repeat' split at hs
  all_goals first | (cases hs; done) | exact (acall_inl hs).elim | exact (athr_inl hs).elim | (simp only [nx, Option.some.injEq, Sum.inl.injEq, Prod.mk.injEq] at hs; obtain ⟨rfl, rfl, rfl, rfl⟩ := hs)
  all_goals exact ⟨Nat.le_of_sub_eq_zero (by first | exact Nat.sub_self _ | exact Nat.sub_eq_zero_of_le (Nat.le_succ _)), by first | exact Nat.le_refl _ | exact Nat.le_add_right _ _⟩

theorem am_lload_n {n : Fin 4} {pc' : Nat} {ls' : aLS} {st' : List Value} {h' : AH} (hs : aex E d pc ls st h (.lload_n n) = some (.inl (pc', ls', st', h'))) : hN h ≤ hN h' ∧ hS h ≤ hS h' := by
  dsimp only [aex] at hs
  repeat' split at hs
  all_goals first | (cases hs; done) | exact (acall_inl hs).elim | exact (athr_inl hs).elim | (simp only [nx, Option.some.injEq, Sum.inl.injEq, Prod.mk.injEq] at hs; obtain ⟨rfl, rfl, rfl, rfl⟩ := hs)
  all_goals exact ⟨Nat.le_of_sub_eq_zero (by first | exact Nat.sub_self _ | exact Nat.sub_eq_zero_of_le (Nat.le_succ _)), by first | exact Nat.le_refl _ | exact Nat.le_add_right _ _⟩

theorem am_lload {n : Nat} {pc' : Nat} {ls' : aLS} {st' : List Value} {h' : AH} (hs : aex E d pc ls st h (.lload n) = some (.inl (pc', ls', st', h'))) : hN h ≤ hN h' ∧ hS h ≤ hS h' := by
  dsimp only [aex] at hs
  repeat' split at hs
  all_goals first | (cases hs; done) | exact (acall_inl hs).elim | exact (athr_inl hs).elim | (simp only [nx, Option.some.injEq, Sum.inl.injEq, Prod.mk.injEq] at hs; obtain ⟨rfl, rfl, rfl, rfl⟩ := hs)
  all_goals exact ⟨Nat.le_of_sub_eq_zero (by first | exact Nat.sub_self _ | exact Nat.sub_eq_zero_of_le (Nat.le_succ _)), by first | exact Nat.le_refl _ | exact Nat.le_add_right _ _⟩

theorem am_aload_n {n : Fin 4} {pc' : Nat} {ls' : aLS} {st' : List Value} {h' : AH} (hs : aex E d pc ls st h (.aload_n n) = some (.inl (pc', ls', st', h'))) : hN h ≤ hN h' ∧ hS h ≤ hS h' := by
  dsimp only [aex] at hs
  repeat' split at hs
  all_goals first | (cases hs; done) | exact (acall_inl hs).elim | exact (athr_inl hs).elim | (simp only [nx, Option.some.injEq, Sum.inl.injEq, Prod.mk.injEq] at hs; obtain ⟨rfl, rfl, rfl, rfl⟩ := hs)
  all_goals exact ⟨Nat.le_of_sub_eq_zero (by first | exact Nat.sub_self _ | exact Nat.sub_eq_zero_of_le (Nat.le_succ _)), by first | exact Nat.le_refl _ | exact Nat.le_add_right _ _⟩

theorem am_aload {n : Nat} {pc' : Nat} {ls' : aLS} {st' : List Value} {h' : AH} (hs : aex E d pc ls st h (.aload n) = some (.inl (pc', ls', st', h'))) : hN h ≤ hN h' ∧ hS h ≤ hS h' := by
  dsimp only [aex] at hs
  repeat' split at hs
  all_goals first | (cases hs; done) | exact (acall_inl hs).elim | exact (athr_inl hs).elim | (simp only [nx, Option.some.injEq, Sum.inl.injEq, Prod.mk.injEq] at hs; obtain ⟨rfl, rfl, rfl, rfl⟩ := hs)
  all_goals exact ⟨Nat.le_of_sub_eq_zero (by first | exact Nat.sub_self _ | exact Nat.sub_eq_zero_of_le (Nat.le_succ _)), by first | exact Nat.le_refl _ | exact Nat.le_add_right _ _⟩

theorem am_istore_n {n : Fin 4} {pc' : Nat} {ls' : aLS} {st' : List Value} {h' : AH} (hs : aex E d pc ls st h (.istore_n n) = some (.inl (pc', ls', st', h'))) : hN h ≤ hN h' ∧ hS h ≤ hS h' := by
  dsimp only [aex] at hs
  repeat' split at hs
  all_goals first | (cases hs; done) | exact (acall_inl hs).elim | exact (athr_inl hs).elim | (simp only [nx, Option.some.injEq, Sum.inl.injEq, Prod.mk.injEq] at hs; obtain ⟨rfl, rfl, rfl, rfl⟩ := hs)
  all_goals exact ⟨Nat.le_of_sub_eq_zero (by first | exact Nat.sub_self _ | exact Nat.sub_eq_zero_of_le (Nat.le_succ _)), by first | exact Nat.le_refl _ | exact Nat.le_add_right _ _⟩

theorem am_istore {n : Nat} {pc' : Nat} {ls' : aLS} {st' : List Value} {h' : AH} (hs : aex E d pc ls st h (.istore n) = some (.inl (pc', ls', st', h'))) : hN h ≤ hN h' ∧ hS h ≤ hS h' := by
  dsimp only [aex] at hs
  repeat' split at hs
  all_goals first | (cases hs; done) | exact (acall_inl hs).elim | exact (athr_inl hs).elim | (simp only [nx, Option.some.injEq, Sum.inl.injEq, Prod.mk.injEq] at hs; obtain ⟨rfl, rfl, rfl, rfl⟩ := hs)
  all_goals exact ⟨Nat.le_of_sub_eq_zero (by first | exact Nat.sub_self _ | exact Nat.sub_eq_zero_of_le (Nat.le_succ _)), by first | exact Nat.le_refl _ | exact Nat.le_add_right _ _⟩

theorem am_lstore_n {n : Fin 4} {pc' : Nat} {ls' : aLS} {st' : List Value} {h' : AH} (hs : aex E d pc ls st h (.lstore_n n) = some (.inl (pc', ls', st', h'))) : hN h ≤ hN h' ∧ hS h ≤ hS h' := by
  dsimp only [aex] at hs
  repeat' split at hs
  all_goals first | (cases hs; done) | exact (acall_inl hs).elim | exact (athr_inl hs).elim | (simp only [nx, Option.some.injEq, Sum.inl.injEq, Prod.mk.injEq] at hs; obtain ⟨rfl, rfl, rfl, rfl⟩ := hs)
  all_goals exact ⟨Nat.le_of_sub_eq_zero (by first | exact Nat.sub_self _ | exact Nat.sub_eq_zero_of_le (Nat.le_succ _)), by first | exact Nat.le_refl _ | exact Nat.le_add_right _ _⟩

theorem am_lstore {n : Nat} {pc' : Nat} {ls' : aLS} {st' : List Value} {h' : AH} (hs : aex E d pc ls st h (.lstore n) = some (.inl (pc', ls', st', h'))) : hN h ≤ hN h' ∧ hS h ≤ hS h' := by
  dsimp only [aex] at hs
  repeat' split at hs
  all_goals first | (cases hs; done) | exact (acall_inl hs).elim | exact (athr_inl hs).elim | (simp only [nx, Option.some.injEq, Sum.inl.injEq, Prod.mk.injEq] at hs; obtain ⟨rfl, rfl, rfl, rfl⟩ := hs)
  all_goals exact ⟨Nat.le_of_sub_eq_zero (by first | exact Nat.sub_self _ | exact Nat.sub_eq_zero_of_le (Nat.le_succ _)), by first | exact Nat.le_refl _ | exact Nat.le_add_right _ _⟩

theorem am_astore_n {n : Fin 4} {pc' : Nat} {ls' : aLS} {st' : List Value} {h' : AH} (hs : aex E d pc ls st h (.astore_n n) = some (.inl (pc', ls', st', h'))) : hN h ≤ hN h' ∧ hS h ≤ hS h' := by
  dsimp only [aex] at hs
  repeat' split at hs
  all_goals first | (cases hs; done) | exact (acall_inl hs).elim | exact (athr_inl hs).elim | (simp only [nx, Option.some.injEq, Sum.inl.injEq, Prod.mk.injEq] at hs; obtain ⟨rfl, rfl, rfl, rfl⟩ := hs)
  all_goals exact ⟨Nat.le_of_sub_eq_zero (by first | exact Nat.sub_self _ | exact Nat.sub_eq_zero_of_le (Nat.le_succ _)), by first | exact Nat.le_refl _ | exact Nat.le_add_right _ _⟩

theorem am_astore {n : Nat} {pc' : Nat} {ls' : aLS} {st' : List Value} {h' : AH} (hs : aex E d pc ls st h (.astore n) = some (.inl (pc', ls', st', h'))) : hN h ≤ hN h' ∧ hS h ≤ hS h' := by
  dsimp only [aex] at hs
  repeat' split at hs
  all_goals first | (cases hs; done) | exact (acall_inl hs).elim | exact (athr_inl hs).elim | (simp only [nx, Option.some.injEq, Sum.inl.injEq, Prod.mk.injEq] at hs; obtain ⟨rfl, rfl, rfl, rfl⟩ := hs)
  all_goals exact ⟨Nat.le_of_sub_eq_zero (by first | exact Nat.sub_self _ | exact Nat.sub_eq_zero_of_le (Nat.le_succ _)), by first | exact Nat.le_refl _ | exact Nat.le_add_right _ _⟩

theorem am_iinc {n : Nat} {q : Int} {pc' : Nat} {ls' : aLS} {st' : List Value} {h' : AH} (hs : aex E d pc ls st h (.iinc n q) = some (.inl (pc', ls', st', h'))) : hN h ≤ hN h' ∧ hS h ≤ hS h' := by
  dsimp only [aex] at hs
  repeat' split at hs
  all_goals first | (cases hs; done) | exact (acall_inl hs).elim | exact (athr_inl hs).elim | (simp only [nx, Option.some.injEq, Sum.inl.injEq, Prod.mk.injEq] at hs; obtain ⟨rfl, rfl, rfl, rfl⟩ := hs)
  all_goals exact ⟨Nat.le_of_sub_eq_zero (by first | exact Nat.sub_self _ | exact Nat.sub_eq_zero_of_le (Nat.le_succ _)), by first | exact Nat.le_refl _ | exact Nat.le_add_right _ _⟩

theorem am_iadd  {pc' : Nat} {ls' : aLS} {st' : List Value} {h' : AH} (hs : aex E d pc ls st h .iadd = some (.inl (pc', ls', st', h'))) : hN h ≤ hN h' ∧ hS h ≤ hS h' := by
  dsimp only [aex] at hs
  repeat' split at hs
  all_goals first | (cases hs; done) | exact (acall_inl hs).elim | exact (athr_inl hs).elim | (simp only [nx, Option.some.injEq, Sum.inl.injEq, Prod.mk.injEq] at hs; obtain ⟨rfl, rfl, rfl, rfl⟩ := hs)
  all_goals exact ⟨Nat.le_of_sub_eq_zero (by first | exact Nat.sub_self _ | exact Nat.sub_eq_zero_of_le (Nat.le_succ _)), by first | exact Nat.le_refl _ | exact Nat.le_add_right _ _⟩

theorem am_isub  {pc' : Nat} {ls' : aLS} {st' : List Value} {h' : AH} (hs : aex E d pc ls st h .isub = some (.inl (pc', ls', st', h'))) : hN h ≤ hN h' ∧ hS h ≤ hS h' := by
  dsimp only [aex] at hs
  repeat' split at hs
  all_goals first | (cases hs; done) | exact (acall_inl hs).elim | exact (athr_inl hs).elim | (simp only [nx, Option.some.injEq, Sum.inl.injEq, Prod.mk.injEq] at hs; obtain ⟨rfl, rfl, rfl, rfl⟩ := hs)
  all_goals exact ⟨Nat.le_of_sub_eq_zero (by first | exact Nat.sub_self _ | exact Nat.sub_eq_zero_of_le (Nat.le_succ _)), by first | exact Nat.le_refl _ | exact Nat.le_add_right _ _⟩

theorem am_imul  {pc' : Nat} {ls' : aLS} {st' : List Value} {h' : AH} (hs : aex E d pc ls st h .imul = some (.inl (pc', ls', st', h'))) : hN h ≤ hN h' ∧ hS h ≤ hS h' := by
  dsimp only [aex] at hs
  repeat' split at hs
  all_goals first | (cases hs; done) | exact (acall_inl hs).elim | exact (athr_inl hs).elim | (simp only [nx, Option.some.injEq, Sum.inl.injEq, Prod.mk.injEq] at hs; obtain ⟨rfl, rfl, rfl, rfl⟩ := hs)
  all_goals exact ⟨Nat.le_of_sub_eq_zero (by first | exact Nat.sub_self _ | exact Nat.sub_eq_zero_of_le (Nat.le_succ _)), by first | exact Nat.le_refl _ | exact Nat.le_add_right _ _⟩

theorem am_ineg  {pc' : Nat} {ls' : aLS} {st' : List Value} {h' : AH} (hs : aex E d pc ls st h .ineg = some (.inl (pc', ls', st', h'))) : hN h ≤ hN h' ∧ hS h ≤ hS h' := by
  dsimp only [aex] at hs
  repeat' split at hs
  all_goals first | (cases hs; done) | exact (acall_inl hs).elim | exact (athr_inl hs).elim | (simp only [nx, Option.some.injEq, Sum.inl.injEq, Prod.mk.injEq] at hs; obtain ⟨rfl, rfl, rfl, rfl⟩ := hs)
  all_goals exact ⟨Nat.le_of_sub_eq_zero (by first | exact Nat.sub_self _ | exact Nat.sub_eq_zero_of_le (Nat.le_succ _)), by first | exact Nat.le_refl _ | exact Nat.le_add_right _ _⟩

theorem am_iand  {pc' : Nat} {ls' : aLS} {st' : List Value} {h' : AH} (hs : aex E d pc ls st h .iand = some (.inl (pc', ls', st', h'))) : hN h ≤ hN h' ∧ hS h ≤ hS h' := by
  dsimp only [aex] at hs
  repeat' split at hs
  all_goals first | (cases hs; done) | exact (acall_inl hs).elim | exact (athr_inl hs).elim | (simp only [nx, Option.some.injEq, Sum.inl.injEq, Prod.mk.injEq] at hs; obtain ⟨rfl, rfl, rfl, rfl⟩ := hs)
  all_goals exact ⟨Nat.le_of_sub_eq_zero (by first | exact Nat.sub_self _ | exact Nat.sub_eq_zero_of_le (Nat.le_succ _)), by first | exact Nat.le_refl _ | exact Nat.le_add_right _ _⟩

theorem am_ior  {pc' : Nat} {ls' : aLS} {st' : List Value} {h' : AH} (hs : aex E d pc ls st h .ior = some (.inl (pc', ls', st', h'))) : hN h ≤ hN h' ∧ hS h ≤ hS h' := by
  dsimp only [aex] at hs
  repeat' split at hs
  all_goals first | (cases hs; done) | exact (acall_inl hs).elim | exact (athr_inl hs).elim | (simp only [nx, Option.some.injEq, Sum.inl.injEq, Prod.mk.injEq] at hs; obtain ⟨rfl, rfl, rfl, rfl⟩ := hs)
  all_goals exact ⟨Nat.le_of_sub_eq_zero (by first | exact Nat.sub_self _ | exact Nat.sub_eq_zero_of_le (Nat.le_succ _)), by first | exact Nat.le_refl _ | exact Nat.le_add_right _ _⟩

theorem am_ishl  {pc' : Nat} {ls' : aLS} {st' : List Value} {h' : AH} (hs : aex E d pc ls st h .ishl = some (.inl (pc', ls', st', h'))) : hN h ≤ hN h' ∧ hS h ≤ hS h' := by
  dsimp only [aex] at hs
  repeat' split at hs
  all_goals first | (cases hs; done) | exact (acall_inl hs).elim | exact (athr_inl hs).elim | (simp only [nx, Option.some.injEq, Sum.inl.injEq, Prod.mk.injEq] at hs; obtain ⟨rfl, rfl, rfl, rfl⟩ := hs)
  all_goals exact ⟨Nat.le_of_sub_eq_zero (by first | exact Nat.sub_self _ | exact Nat.sub_eq_zero_of_le (Nat.le_succ _)), by first | exact Nat.le_refl _ | exact Nat.le_add_right _ _⟩

theorem am_ishr  {pc' : Nat} {ls' : aLS} {st' : List Value} {h' : AH} (hs : aex E d pc ls st h .ishr = some (.inl (pc', ls', st', h'))) : hN h ≤ hN h' ∧ hS h ≤ hS h' := by
  dsimp only [aex] at hs
  repeat' split at hs
  all_goals first | (cases hs; done) | exact (acall_inl hs).elim | exact (athr_inl hs).elim | (simp only [nx, Option.some.injEq, Sum.inl.injEq, Prod.mk.injEq] at hs; obtain ⟨rfl, rfl, rfl, rfl⟩ := hs)
  all_goals exact ⟨Nat.le_of_sub_eq_zero (by first | exact Nat.sub_self _ | exact Nat.sub_eq_zero_of_le (Nat.le_succ _)), by first | exact Nat.le_refl _ | exact Nat.le_add_right _ _⟩

theorem am_iushr  {pc' : Nat} {ls' : aLS} {st' : List Value} {h' : AH} (hs : aex E d pc ls st h .iushr = some (.inl (pc', ls', st', h'))) : hN h ≤ hN h' ∧ hS h ≤ hS h' := by
  dsimp only [aex] at hs
  repeat' split at hs
  all_goals first | (cases hs; done) | exact (acall_inl hs).elim | exact (athr_inl hs).elim | (simp only [nx, Option.some.injEq, Sum.inl.injEq, Prod.mk.injEq] at hs; obtain ⟨rfl, rfl, rfl, rfl⟩ := hs)
  all_goals exact ⟨Nat.le_of_sub_eq_zero (by first | exact Nat.sub_self _ | exact Nat.sub_eq_zero_of_le (Nat.le_succ _)), by first | exact Nat.le_refl _ | exact Nat.le_add_right _ _⟩

theorem am_ladd  {pc' : Nat} {ls' : aLS} {st' : List Value} {h' : AH} (hs : aex E d pc ls st h .ladd = some (.inl (pc', ls', st', h'))) : hN h ≤ hN h' ∧ hS h ≤ hS h' := by
  dsimp only [aex] at hs
  repeat' split at hs
  all_goals first | (cases hs; done) | exact (acall_inl hs).elim | exact (athr_inl hs).elim | (simp only [nx, Option.some.injEq, Sum.inl.injEq, Prod.mk.injEq] at hs; obtain ⟨rfl, rfl, rfl, rfl⟩ := hs)
  all_goals exact ⟨Nat.le_of_sub_eq_zero (by first | exact Nat.sub_self _ | exact Nat.sub_eq_zero_of_le (Nat.le_succ _)), by first | exact Nat.le_refl _ | exact Nat.le_add_right _ _⟩

theorem am_lsub  {pc' : Nat} {ls' : aLS} {st' : List Value} {h' : AH} (hs : aex E d pc ls st h .lsub = some (.inl (pc', ls', st', h'))) : hN h ≤ hN h' ∧ hS h ≤ hS h' := by
  dsimp only [aex] at hs
  repeat' split at hs
  all_goals first | (cases hs; done) | exact (acall_inl hs).elim | exact (athr_inl hs).elim | (simp only [nx, Option.some.injEq, Sum.inl.injEq, Prod.mk.injEq] at hs; obtain ⟨rfl, rfl, rfl, rfl⟩ := hs)
  all_goals exact ⟨Nat.le_of_sub_eq_zero (by first | exact Nat.sub_self _ | exact Nat.sub_eq_zero_of_le (Nat.le_succ _)), by first | exact Nat.le_refl _ | exact Nat.le_add_right _ _⟩

theorem am_lmul  {pc' : Nat} {ls' : aLS} {st' : List Value} {h' : AH} (hs : aex E d pc ls st h .lmul = some (.inl (pc', ls', st', h'))) : hN h ≤ hN h' ∧ hS h ≤ hS h' := by
  dsimp only [aex] at hs
  repeat' split at hs
  all_goals first | (cases hs; done) | exact (acall_inl hs).elim | exact (athr_inl hs).elim | (simp only [nx, Option.some.injEq, Sum.inl.injEq, Prod.mk.injEq] at hs; obtain ⟨rfl, rfl, rfl, rfl⟩ := hs)
  all_goals exact ⟨Nat.le_of_sub_eq_zero (by first | exact Nat.sub_self _ | exact Nat.sub_eq_zero_of_le (Nat.le_succ _)), by first | exact Nat.le_refl _ | exact Nat.le_add_right _ _⟩

theorem am_lcmp  {pc' : Nat} {ls' : aLS} {st' : List Value} {h' : AH} (hs : aex E d pc ls st h .lcmp = some (.inl (pc', ls', st', h'))) : hN h ≤ hN h' ∧ hS h ≤ hS h' := by
  dsimp only [aex] at hs
  repeat' split at hs
  all_goals first | (cases hs; done) | exact (acall_inl hs).elim | exact (athr_inl hs).elim | (simp only [nx, Option.some.injEq, Sum.inl.injEq, Prod.mk.injEq] at hs; obtain ⟨rfl, rfl, rfl, rfl⟩ := hs)
  all_goals exact ⟨Nat.le_of_sub_eq_zero (by first | exact Nat.sub_self _ | exact Nat.sub_eq_zero_of_le (Nat.le_succ _)), by first | exact Nat.le_refl _ | exact Nat.le_add_right _ _⟩

theorem am_i2l  {pc' : Nat} {ls' : aLS} {st' : List Value} {h' : AH} (hs : aex E d pc ls st h .i2l = some (.inl (pc', ls', st', h'))) : hN h ≤ hN h' ∧ hS h ≤ hS h' := by
  dsimp only [aex] at hs
  repeat' split at hs
  all_goals first | (cases hs; done) | exact (acall_inl hs).elim | exact (athr_inl hs).elim | (simp only [nx, Option.some.injEq, Sum.inl.injEq, Prod.mk.injEq] at hs; obtain ⟨rfl, rfl, rfl, rfl⟩ := hs)
  all_goals exact ⟨Nat.le_of_sub_eq_zero (by first | exact Nat.sub_self _ | exact Nat.sub_eq_zero_of_le (Nat.le_succ _)), by first | exact Nat.le_refl _ | exact Nat.le_add_right _ _⟩

theorem am_l2i  {pc' : Nat} {ls' : aLS} {st' : List Value} {h' : AH} (hs : aex E d pc ls st h .l2i = some (.inl (pc', ls', st', h'))) : hN h ≤ hN h' ∧ hS h ≤ hS h' := by
  dsimp only [aex] at hs
  repeat' split at hs
  all_goals first | (cases hs; done) | exact (acall_inl hs).elim | exact (athr_inl hs).elim | (simp only [nx, Option.some.injEq, Sum.inl.injEq, Prod.mk.injEq] at hs; obtain ⟨rfl, rfl, rfl, rfl⟩ := hs)
  all_goals exact ⟨Nat.le_of_sub_eq_zero (by first | exact Nat.sub_self _ | exact Nat.sub_eq_zero_of_le (Nat.le_succ _)), by first | exact Nat.le_refl _ | exact Nat.le_add_right _ _⟩

theorem am_i2b  {pc' : Nat} {ls' : aLS} {st' : List Value} {h' : AH} (hs : aex E d pc ls st h .i2b = some (.inl (pc', ls', st', h'))) : hN h ≤ hN h' ∧ hS h ≤ hS h' := by
  dsimp only [aex] at hs
  repeat' split at hs
  all_goals first | (cases hs; done) | exact (acall_inl hs).elim | exact (athr_inl hs).elim | (simp only [nx, Option.some.injEq, Sum.inl.injEq, Prod.mk.injEq] at hs; obtain ⟨rfl, rfl, rfl, rfl⟩ := hs)
  all_goals exact ⟨Nat.le_of_sub_eq_zero (by first | exact Nat.sub_self _ | exact Nat.sub_eq_zero_of_le (Nat.le_succ _)), by first | exact Nat.le_refl _ | exact Nat.le_add_right _ _⟩

theorem am_i2c  {pc' : Nat} {ls' : aLS} {st' : List Value} {h' : AH} (hs : aex E d pc ls st h .i2c = some (.inl (pc', ls', st', h'))) : hN h ≤ hN h' ∧ hS h ≤ hS h' := by
  dsimp only [aex] at hs
  repeat' split at hs
  all_goals first | (cases hs; done) | exact (acall_inl hs).elim | exact (athr_inl hs).elim | (simp only [nx, Option.some.injEq, Sum.inl.injEq, Prod.mk.injEq] at hs; obtain ⟨rfl, rfl, rfl, rfl⟩ := hs)
  all_goals exact ⟨Nat.le_of_sub_eq_zero (by first | exact Nat.sub_self _ | exact Nat.sub_eq_zero_of_le (Nat.le_succ _)), by first | exact Nat.le_refl _ | exact Nat.le_add_right _ _⟩

theorem am_idiv  {pc' : Nat} {ls' : aLS} {st' : List Value} {h' : AH} (hs : aex E d pc ls st h .idiv = some (.inl (pc', ls', st', h'))) : hN h ≤ hN h' ∧ hS h ≤ hS h' := by
  dsimp only [aex] at hs
  repeat' split at hs
  all_goals first | (cases hs; done) | exact (acall_inl hs).elim | exact (athr_inl hs).elim | (simp only [nx, Option.some.injEq, Sum.inl.injEq, Prod.mk.injEq] at hs; obtain ⟨rfl, rfl, rfl, rfl⟩ := hs)
  all_goals exact ⟨Nat.le_of_sub_eq_zero (by first | exact Nat.sub_self _ | exact Nat.sub_eq_zero_of_le (Nat.le_succ _)), by first | exact Nat.le_refl _ | exact Nat.le_add_right _ _⟩

theorem am_irem  {pc' : Nat} {ls' : aLS} {st' : List Value} {h' : AH} (hs : aex E d pc ls st h .irem = some (.inl (pc', ls', st', h'))) : hN h ≤ hN h' ∧ hS h ≤ hS h' := by
  dsimp only [aex] at hs
  repeat' split at hs
  all_goals first | (cases hs; done) | exact (acall_inl hs).elim | exact (athr_inl hs).elim | (simp only [nx, Option.some.injEq, Sum.inl.injEq, Prod.mk.injEq] at hs; obtain ⟨rfl, rfl, rfl, rfl⟩ := hs)
  all_goals exact ⟨Nat.le_of_sub_eq_zero (by first | exact Nat.sub_self _ | exact Nat.sub_eq_zero_of_le (Nat.le_succ _)), by first | exact Nat.le_refl _ | exact Nat.le_add_right _ _⟩

theorem am_ldiv  {pc' : Nat} {ls' : aLS} {st' : List Value} {h' : AH} (hs : aex E d pc ls st h .ldiv = some (.inl (pc', ls', st', h'))) : hN h ≤ hN h' ∧ hS h ≤ hS h' := by
  dsimp only [aex] at hs
  repeat' split at hs
  all_goals first | (cases hs; done) | exact (acall_inl hs).elim | exact (athr_inl hs).elim | (simp only [nx, Option.some.injEq, Sum.inl.injEq, Prod.mk.injEq] at hs; obtain ⟨rfl, rfl, rfl, rfl⟩ := hs)
  all_goals exact ⟨Nat.le_of_sub_eq_zero (by first | exact Nat.sub_self _ | exact Nat.sub_eq_zero_of_le (Nat.le_succ _)), by first | exact Nat.le_refl _ | exact Nat.le_add_right _ _⟩

theorem am_dup  {pc' : Nat} {ls' : aLS} {st' : List Value} {h' : AH} (hs : aex E d pc ls st h .dup = some (.inl (pc', ls', st', h'))) : hN h ≤ hN h' ∧ hS h ≤ hS h' := by
  dsimp only [aex] at hs
  repeat' split at hs
  all_goals first | (cases hs; done) | exact (acall_inl hs).elim | exact (athr_inl hs).elim | (simp only [nx, Option.some.injEq, Sum.inl.injEq, Prod.mk.injEq] at hs; obtain ⟨rfl, rfl, rfl, rfl⟩ := hs)
  all_goals exact ⟨Nat.le_of_sub_eq_zero (by first | exact Nat.sub_self _ | exact Nat.sub_eq_zero_of_le (Nat.le_succ _)), by first | exact Nat.le_refl _ | exact Nat.le_add_right _ _⟩

theorem am_pop  {pc' : Nat} {ls' : aLS} {st' : List Value} {h' : AH} (hs : aex E d pc ls st h .pop = some (.inl (pc', ls', st', h'))) : hN h ≤ hN h' ∧ hS h ≤ hS h' := by
  dsimp only [aex] at hs
  repeat' split at hs
  all_goals first | (cases hs; done) | exact (acall_inl hs).elim | exact (athr_inl hs).elim | (simp only [nx, Option.some.injEq, Sum.inl.injEq, Prod.mk.injEq] at hs; obtain ⟨rfl, rfl, rfl, rfl⟩ := hs)
  all_goals exact ⟨Nat.le_of_sub_eq_zero (by first | exact Nat.sub_self _ | exact Nat.sub_eq_zero_of_le (Nat.le_succ _)), by first | exact Nat.le_refl _ | exact Nat.le_add_right _ _⟩

theorem am_dup2  {pc' : Nat} {ls' : aLS} {st' : List Value} {h' : AH} (hs : aex E d pc ls st h .dup2 = some (.inl (pc', ls', st', h'))) : hN h ≤ hN h' ∧ hS h ≤ hS h' := by
  dsimp only [aex] at hs
  repeat' split at hs
  all_goals first | (cases hs; done) | exact (acall_inl hs).elim | exact (athr_inl hs).elim | (simp only [nx, Option.some.injEq, Sum.inl.injEq, Prod.mk.injEq] at hs; obtain ⟨rfl, rfl, rfl, rfl⟩ := hs)
  all_goals exact ⟨Nat.le_of_sub_eq_zero (by first | exact Nat.sub_self _ | exact Nat.sub_eq_zero_of_le (Nat.le_succ _)), by first | exact Nat.le_refl _ | exact Nat.le_add_right _ _⟩

theorem am_goto {n : Int} {pc' : Nat} {ls' : aLS} {st' : List Value} {h' : AH} (hs : aex E d pc ls st h (.goto n) = some (.inl (pc', ls', st', h'))) : hN h ≤ hN h' ∧ hS h ≤ hS h' := by
  dsimp only [aex] at hs
  repeat' split at hs
  all_goals first | (cases hs; done) | exact (acall_inl hs).elim | exact (athr_inl hs).elim | (simp only [nx, Option.some.injEq, Sum.inl.injEq, Prod.mk.injEq] at hs; obtain ⟨rfl, rfl, rfl, rfl⟩ := hs)
  all_goals exact ⟨Nat.le_of_sub_eq_zero (by first | exact Nat.sub_self _ | exact Nat.sub_eq_zero_of_le (Nat.le_succ _)), by first | exact Nat.le_refl _ | exact Nat.le_add_right _ _⟩

theorem am_ifCond {c : ClassFile.Cond} {n : Int} {pc' : Nat} {ls' : aLS} {st' : List Value} {h' : AH} (hs : aex E d pc ls st h (.ifCond c n) = some (.inl (pc', ls', st', h'))) : hN h ≤ hN h' ∧ hS h ≤ hS h' := by
  dsimp only [aex] at hs
  repeat' split at hs
  all_goals first | (cases hs; done) | exact (acall_inl hs).elim | exact (athr_inl hs).elim | (simp only [nx, Option.some.injEq, Sum.inl.injEq, Prod.mk.injEq] at hs; obtain ⟨rfl, rfl, rfl, rfl⟩ := hs)
  all_goals exact ⟨Nat.le_of_sub_eq_zero (by first | exact Nat.sub_self _ | exact Nat.sub_eq_zero_of_le (Nat.le_succ _)), by first | exact Nat.le_refl _ | exact Nat.le_add_right _ _⟩

theorem am_if_icmp {c : ClassFile.Cond} {n : Int} {pc' : Nat} {ls' : aLS} {st' : List Value} {h' : AH} (hs : aex E d pc ls st h (.if_icmp c n) = some (.inl (pc', ls', st', h'))) : hN h ≤ hN h' ∧ hS h ≤ hS h' := by
  dsimp only [aex] at hs
  repeat' split at hs
  all_goals first | (cases hs; done) | exact (acall_inl hs).elim | exact (athr_inl hs).elim | (simp only [nx, Option.some.injEq, Sum.inl.injEq, Prod.mk.injEq] at hs; obtain ⟨rfl, rfl, rfl, rfl⟩ := hs)
  all_goals exact ⟨Nat.le_of_sub_eq_zero (by first | exact Nat.sub_self _ | exact Nat.sub_eq_zero_of_le (Nat.le_succ _)), by first | exact Nat.le_refl _ | exact Nat.le_add_right _ _⟩

theorem am_getfield {n : Nat} {pc' : Nat} {ls' : aLS} {st' : List Value} {h' : AH} (hs : aex E d pc ls st h (.getfield n) = some (.inl (pc', ls', st', h'))) : hN h ≤ hN h' ∧ hS h ≤ hS h' := by
  dsimp only [aex] at hs
  repeat' split at hs
  all_goals first | (cases hs; done) | exact (acall_inl hs).elim | exact (athr_inl hs).elim | (simp only [nx, Option.some.injEq, Sum.inl.injEq, Prod.mk.injEq] at hs; obtain ⟨rfl, rfl, rfl, rfl⟩ := hs)
  all_goals exact ⟨Nat.le_of_sub_eq_zero (by first | exact Nat.sub_self _ | exact Nat.sub_eq_zero_of_le (Nat.le_succ _)), by first | exact Nat.le_refl _ | exact Nat.le_add_right _ _⟩

theorem am_putfield {n : Nat} {pc' : Nat} {ls' : aLS} {st' : List Value} {h' : AH} (hs : aex E d pc ls st h (.putfield n) = some (.inl (pc', ls', st', h'))) : hN h ≤ hN h' ∧ hS h ≤ hS h' := by
  dsimp only [aex] at hs
  repeat' split at hs
  all_goals first | (cases hs; done) | exact (acall_inl hs).elim | exact (athr_inl hs).elim | (simp only [nx, Option.some.injEq, Sum.inl.injEq, Prod.mk.injEq] at hs; obtain ⟨rfl, rfl, rfl, rfl⟩ := hs)
  all_goals exact ⟨Nat.le_of_sub_eq_zero (by first | exact Nat.sub_self _ | exact Nat.sub_eq_zero_of_le (Nat.le_succ _)), by first | exact Nat.le_refl _ | exact Nat.le_add_right _ _⟩

theorem am_getstatic {n : Nat} {pc' : Nat} {ls' : aLS} {st' : List Value} {h' : AH} (hs : aex E d pc ls st h (.getstatic n) = some (.inl (pc', ls', st', h'))) : hN h ≤ hN h' ∧ hS h ≤ hS h' := by
  dsimp only [aex] at hs
  repeat' split at hs
  all_goals first | (cases hs; done) | exact (acall_inl hs).elim | exact (athr_inl hs).elim | (simp only [nx, Option.some.injEq, Sum.inl.injEq, Prod.mk.injEq] at hs; obtain ⟨rfl, rfl, rfl, rfl⟩ := hs)
  all_goals exact ⟨Nat.le_of_sub_eq_zero (by first | exact Nat.sub_self _ | exact Nat.sub_eq_zero_of_le (Nat.le_succ _)), by first | exact Nat.le_refl _ | exact Nat.le_add_right _ _⟩

theorem am_iaload  {pc' : Nat} {ls' : aLS} {st' : List Value} {h' : AH} (hs : aex E d pc ls st h .iaload = some (.inl (pc', ls', st', h'))) : hN h ≤ hN h' ∧ hS h ≤ hS h' := by
  dsimp only [aex] at hs
  repeat' split at hs
  all_goals first | (cases hs; done) | exact (acall_inl hs).elim | exact (athr_inl hs).elim | (simp only [nx, Option.some.injEq, Sum.inl.injEq, Prod.mk.injEq] at hs; obtain ⟨rfl, rfl, rfl, rfl⟩ := hs)
  all_goals exact ⟨Nat.le_of_sub_eq_zero (by first | exact Nat.sub_self _ | exact Nat.sub_eq_zero_of_le (Nat.le_succ _)), by first | exact Nat.le_refl _ | exact Nat.le_add_right _ _⟩

theorem am_baload  {pc' : Nat} {ls' : aLS} {st' : List Value} {h' : AH} (hs : aex E d pc ls st h .baload = some (.inl (pc', ls', st', h'))) : hN h ≤ hN h' ∧ hS h ≤ hS h' := by
  dsimp only [aex] at hs
  repeat' split at hs
  all_goals first | (cases hs; done) | exact (acall_inl hs).elim | exact (athr_inl hs).elim | (simp only [nx, Option.some.injEq, Sum.inl.injEq, Prod.mk.injEq] at hs; obtain ⟨rfl, rfl, rfl, rfl⟩ := hs)
  all_goals exact ⟨Nat.le_of_sub_eq_zero (by first | exact Nat.sub_self _ | exact Nat.sub_eq_zero_of_le (Nat.le_succ _)), by first | exact Nat.le_refl _ | exact Nat.le_add_right _ _⟩

theorem am_laload  {pc' : Nat} {ls' : aLS} {st' : List Value} {h' : AH} (hs : aex E d pc ls st h .laload = some (.inl (pc', ls', st', h'))) : hN h ≤ hN h' ∧ hS h ≤ hS h' := by
  dsimp only [aex] at hs
  repeat' split at hs
  all_goals first | (cases hs; done) | exact (acall_inl hs).elim | exact (athr_inl hs).elim | (simp only [nx, Option.some.injEq, Sum.inl.injEq, Prod.mk.injEq] at hs; obtain ⟨rfl, rfl, rfl, rfl⟩ := hs)
  all_goals exact ⟨Nat.le_of_sub_eq_zero (by first | exact Nat.sub_self _ | exact Nat.sub_eq_zero_of_le (Nat.le_succ _)), by first | exact Nat.le_refl _ | exact Nat.le_add_right _ _⟩

theorem am_aaload  {pc' : Nat} {ls' : aLS} {st' : List Value} {h' : AH} (hs : aex E d pc ls st h .aaload = some (.inl (pc', ls', st', h'))) : hN h ≤ hN h' ∧ hS h ≤ hS h' := by
  dsimp only [aex] at hs
  repeat' split at hs
  all_goals first | (cases hs; done) | exact (acall_inl hs).elim | exact (athr_inl hs).elim | (simp only [nx, Option.some.injEq, Sum.inl.injEq, Prod.mk.injEq] at hs; obtain ⟨rfl, rfl, rfl, rfl⟩ := hs)
  all_goals exact ⟨Nat.le_of_sub_eq_zero (by first | exact Nat.sub_self _ | exact Nat.sub_eq_zero_of_le (Nat.le_succ _)), by first | exact Nat.le_refl _ | exact Nat.le_add_right _ _⟩

theorem am_iastore  {pc' : Nat} {ls' : aLS} {st' : List Value} {h' : AH} (hs : aex E d pc ls st h .iastore = some (.inl (pc', ls', st', h'))) : hN h ≤ hN h' ∧ hS h ≤ hS h' := by
  dsimp only [aex] at hs
  repeat' split at hs
  all_goals first | (cases hs; done) | exact (acall_inl hs).elim | exact (athr_inl hs).elim | (simp only [nx, Option.some.injEq, Sum.inl.injEq, Prod.mk.injEq] at hs; obtain ⟨rfl, rfl, rfl, rfl⟩ := hs)
  all_goals exact ⟨Nat.le_of_sub_eq_zero (by first | exact Nat.sub_self _ | exact Nat.sub_eq_zero_of_le (Nat.le_succ _)), by first | exact Nat.le_refl _ | exact Nat.le_add_right _ _⟩

theorem am_bastore  {pc' : Nat} {ls' : aLS} {st' : List Value} {h' : AH} (hs : aex E d pc ls st h .bastore = some (.inl (pc', ls', st', h'))) : hN h ≤ hN h' ∧ hS h ≤ hS h' := by
  dsimp only [aex] at hs
  repeat' split at hs
  all_goals first | (cases hs; done) | exact (acall_inl hs).elim | exact (athr_inl hs).elim | (simp only [nx, Option.some.injEq, Sum.inl.injEq, Prod.mk.injEq] at hs; obtain ⟨rfl, rfl, rfl, rfl⟩ := hs)
  all_goals exact ⟨Nat.le_of_sub_eq_zero (by first | exact Nat.sub_self _ | exact Nat.sub_eq_zero_of_le (Nat.le_succ _)), by first | exact Nat.le_refl _ | exact Nat.le_add_right _ _⟩

theorem am_lastore  {pc' : Nat} {ls' : aLS} {st' : List Value} {h' : AH} (hs : aex E d pc ls st h .lastore = some (.inl (pc', ls', st', h'))) : hN h ≤ hN h' ∧ hS h ≤ hS h' := by
  dsimp only [aex] at hs
  repeat' split at hs
  all_goals first | (cases hs; done) | exact (acall_inl hs).elim | exact (athr_inl hs).elim | (simp only [nx, Option.some.injEq, Sum.inl.injEq, Prod.mk.injEq] at hs; obtain ⟨rfl, rfl, rfl, rfl⟩ := hs)
  all_goals exact ⟨Nat.le_of_sub_eq_zero (by first | exact Nat.sub_self _ | exact Nat.sub_eq_zero_of_le (Nat.le_succ _)), by first | exact Nat.le_refl _ | exact Nat.le_add_right _ _⟩

theorem am_aastore  {pc' : Nat} {ls' : aLS} {st' : List Value} {h' : AH} (hs : aex E d pc ls st h .aastore = some (.inl (pc', ls', st', h'))) : hN h ≤ hN h' ∧ hS h ≤ hS h' := by
  dsimp only [aex] at hs
  repeat' split at hs
  all_goals first | (cases hs; done) | exact (acall_inl hs).elim | exact (athr_inl hs).elim | (simp only [nx, Option.some.injEq, Sum.inl.injEq, Prod.mk.injEq] at hs; obtain ⟨rfl, rfl, rfl, rfl⟩ := hs)
  all_goals exact ⟨Nat.le_of_sub_eq_zero (by first | exact Nat.sub_self _ | exact Nat.sub_eq_zero_of_le (Nat.le_succ _)), by first | exact Nat.le_refl _ | exact Nat.le_add_right _ _⟩

theorem am_arraylength  {pc' : Nat} {ls' : aLS} {st' : List Value} {h' : AH} (hs : aex E d pc ls st h .arraylength = some (.inl (pc', ls', st', h'))) : hN h ≤ hN h' ∧ hS h ≤ hS h' := by
  dsimp only [aex] at hs
  repeat' split at hs
  all_goals first | (cases hs; done) | exact (acall_inl hs).elim | exact (athr_inl hs).elim | (simp only [nx, Option.some.injEq, Sum.inl.injEq, Prod.mk.injEq] at hs; obtain ⟨rfl, rfl, rfl, rfl⟩ := hs)
  all_goals exact ⟨Nat.le_of_sub_eq_zero (by first | exact Nat.sub_self _ | exact Nat.sub_eq_zero_of_le (Nat.le_succ _)), by first | exact Nat.le_refl _ | exact Nat.le_add_right _ _⟩

theorem am_new {n : Nat} {pc' : Nat} {ls' : aLS} {st' : List Value} {h' : AH} (hs : aex E d pc ls st h (.new n) = some (.inl (pc', ls', st', h'))) : hN h ≤ hN h' ∧ hS h ≤ hS h' := by
  dsimp only [aex] at hs
  repeat' split at hs
  all_goals first | (cases hs; done) | exact (acall_inl hs).elim | exact (athr_inl hs).elim | (simp only [nx, Option.some.injEq, Sum.inl.injEq, Prod.mk.injEq] at hs; obtain ⟨rfl, rfl, rfl, rfl⟩ := hs)
  all_goals exact ⟨Nat.le_of_sub_eq_zero (by first | exact Nat.sub_self _ | exact Nat.sub_eq_zero_of_le (Nat.le_succ _)), by first | exact Nat.le_refl _ | exact Nat.le_add_right _ _⟩

theorem am_newarray {n : ArrayType} {pc' : Nat} {ls' : aLS} {st' : List Value} {h' : AH} (hs : aex E d pc ls st h (.newarray n) = some (.inl (pc', ls', st', h'))) : hN h ≤ hN h' ∧ hS h ≤ hS h' := by
  dsimp only [aex] at hs
  repeat' split at hs
  all_goals first | (cases hs; done) | exact (acall_inl hs).elim | exact (athr_inl hs).elim | (simp only [nx, Option.some.injEq, Sum.inl.injEq, Prod.mk.injEq] at hs; obtain ⟨rfl, rfl, rfl, rfl⟩ := hs)
  all_goals exact ⟨Nat.le_of_sub_eq_zero (by first | exact Nat.sub_self _ | exact Nat.sub_eq_zero_of_le (Nat.le_succ _)), by first | exact Nat.le_refl _ | exact Nat.le_add_right _ _⟩

theorem am_anewarray {n : Nat} {pc' : Nat} {ls' : aLS} {st' : List Value} {h' : AH} (hs : aex E d pc ls st h (.anewarray n) = some (.inl (pc', ls', st', h'))) : hN h ≤ hN h' ∧ hS h ≤ hS h' := by
  dsimp only [aex] at hs
  repeat' split at hs
  all_goals first | (cases hs; done) | exact (acall_inl hs).elim | exact (athr_inl hs).elim | (simp only [nx, Option.some.injEq, Sum.inl.injEq, Prod.mk.injEq] at hs; obtain ⟨rfl, rfl, rfl, rfl⟩ := hs)
  all_goals exact ⟨Nat.le_of_sub_eq_zero (by first | exact Nat.sub_self _ | exact Nat.sub_eq_zero_of_le (Nat.le_succ _)), by first | exact Nat.le_refl _ | exact Nat.le_add_right _ _⟩

theorem am_ldc {n : Nat} {pc' : Nat} {ls' : aLS} {st' : List Value} {h' : AH} (hs : aex E d pc ls st h (.ldc n) = some (.inl (pc', ls', st', h'))) : hN h ≤ hN h' ∧ hS h ≤ hS h' := by
  dsimp only [aex] at hs
  repeat' split at hs
  all_goals first | (cases hs; done) | exact (acall_inl hs).elim | exact (athr_inl hs).elim | (simp only [nx, Option.some.injEq, Sum.inl.injEq, Prod.mk.injEq] at hs; obtain ⟨rfl, rfl, rfl, rfl⟩ := hs)
  all_goals exact ⟨Nat.le_of_sub_eq_zero (by first | exact Nat.sub_self _ | exact Nat.sub_eq_zero_of_le (Nat.le_succ _)), by first | exact Nat.le_refl _ | exact Nat.le_add_right _ _⟩

theorem am_ldc2_w {n : Nat} {pc' : Nat} {ls' : aLS} {st' : List Value} {h' : AH} (hs : aex E d pc ls st h (.ldc2_w n) = some (.inl (pc', ls', st', h'))) : hN h ≤ hN h' ∧ hS h ≤ hS h' := by
  dsimp only [aex] at hs
  repeat' split at hs
  all_goals first | (cases hs; done) | exact (acall_inl hs).elim | exact (athr_inl hs).elim | (simp only [nx, Option.some.injEq, Sum.inl.injEq, Prod.mk.injEq] at hs; obtain ⟨rfl, rfl, rfl, rfl⟩ := hs)
  all_goals exact ⟨Nat.le_of_sub_eq_zero (by first | exact Nat.sub_self _ | exact Nat.sub_eq_zero_of_le (Nat.le_succ _)), by first | exact Nat.le_refl _ | exact Nat.le_add_right _ _⟩

theorem am_invokestatic {n : Nat} {pc' : Nat} {ls' : aLS} {st' : List Value} {h' : AH} (hs : aex E d pc ls st h (.invokestatic n) = some (.inl (pc', ls', st', h'))) : hN h ≤ hN h' ∧ hS h ≤ hS h' := by
  dsimp only [aex] at hs
  repeat' split at hs
  all_goals first | (cases hs; done) | exact (acall_inl hs).elim | exact (athr_inl hs).elim | (simp only [nx, Option.some.injEq, Sum.inl.injEq, Prod.mk.injEq] at hs; obtain ⟨rfl, rfl, rfl, rfl⟩ := hs)
  all_goals exact ⟨Nat.le_of_sub_eq_zero (by first | exact Nat.sub_self _ | exact Nat.sub_eq_zero_of_le (Nat.le_succ _)), by first | exact Nat.le_refl _ | exact Nat.le_add_right _ _⟩

theorem am_invokevirtual {n : Nat} {pc' : Nat} {ls' : aLS} {st' : List Value} {h' : AH} (hs : aex E d pc ls st h (.invokevirtual n) = some (.inl (pc', ls', st', h'))) : hN h ≤ hN h' ∧ hS h ≤ hS h' := by
  dsimp only [aex] at hs
  repeat' split at hs
  all_goals first | (cases hs; done) | exact (acall_inl hs).elim | exact (athr_inl hs).elim | (simp only [nx, Option.some.injEq, Sum.inl.injEq, Prod.mk.injEq] at hs; obtain ⟨rfl, rfl, rfl, rfl⟩ := hs)
  all_goals exact ⟨Nat.le_of_sub_eq_zero (by first | exact Nat.sub_self _ | exact Nat.sub_eq_zero_of_le (Nat.le_succ _)), by first | exact Nat.le_refl _ | exact Nat.le_add_right _ _⟩

theorem am_invokespecial {n : Nat} {pc' : Nat} {ls' : aLS} {st' : List Value} {h' : AH} (hs : aex E d pc ls st h (.invokespecial n) = some (.inl (pc', ls', st', h'))) : hN h ≤ hN h' ∧ hS h ≤ hS h' := by
  dsimp only [aex] at hs
  repeat' split at hs
  all_goals first | (cases hs; done) | exact (acall_inl hs).elim | exact (athr_inl hs).elim | (simp only [nx, Option.some.injEq, Sum.inl.injEq, Prod.mk.injEq] at hs; obtain ⟨rfl, rfl, rfl, rfl⟩ := hs)
  all_goals exact ⟨Nat.le_of_sub_eq_zero (by first | exact Nat.sub_self _ | exact Nat.sub_eq_zero_of_le (Nat.le_succ _)), by first | exact Nat.le_refl _ | exact Nat.le_add_right _ _⟩

theorem am_ireturn  {pc' : Nat} {ls' : aLS} {st' : List Value} {h' : AH} (hs : aex E d pc ls st h .ireturn = some (.inl (pc', ls', st', h'))) : hN h ≤ hN h' ∧ hS h ≤ hS h' := by
  dsimp only [aex] at hs
  repeat' split at hs
  all_goals first | (cases hs; done) | exact (acall_inl hs).elim | exact (athr_inl hs).elim | (simp only [nx, Option.some.injEq, Sum.inl.injEq, Prod.mk.injEq] at hs; obtain ⟨rfl, rfl, rfl, rfl⟩ := hs)

theorem am_lreturn  {pc' : Nat} {ls' : aLS} {st' : List Value} {h' : AH} (hs : aex E d pc ls st h .lreturn = some (.inl (pc', ls', st', h'))) : hN h ≤ hN h' ∧ hS h ≤ hS h' := by
  dsimp only [aex] at hs
  repeat' split at hs
  all_goals first | (cases hs; done) | exact (acall_inl hs).elim | exact (athr_inl hs).elim | (simp only [nx, Option.some.injEq, Sum.inl.injEq, Prod.mk.injEq] at hs; obtain ⟨rfl, rfl, rfl, rfl⟩ := hs)

theorem am_return_  {pc' : Nat} {ls' : aLS} {st' : List Value} {h' : AH} (hs : aex E d pc ls st h .return_ = some (.inl (pc', ls', st', h'))) : hN h ≤ hN h' ∧ hS h ≤ hS h' := by
  dsimp only [aex] at hs
  repeat' split at hs
  all_goals first | (cases hs; done) | exact (acall_inl hs).elim | exact (athr_inl hs).elim | (simp only [nx, Option.some.injEq, Sum.inl.injEq, Prod.mk.injEq] at hs; obtain ⟨rfl, rfl, rfl, rfl⟩ := hs)

theorem am_aconst_null  {pc' : Nat} {ls' : aLS} {st' : List Value} {h' : AH} (hs : aex E d pc ls st h .aconst_null = some (.inl (pc', ls', st', h'))) : hN h ≤ hN h' ∧ hS h ≤ hS h' := by
  dsimp only [aex] at hs
  repeat' split at hs
  all_goals first | (cases hs; done) | exact (acall_inl hs).elim | exact (athr_inl hs).elim | (simp only [nx, Option.some.injEq, Sum.inl.injEq, Prod.mk.injEq] at hs; obtain ⟨rfl, rfl, rfl, rfl⟩ := hs)
  all_goals exact ⟨Nat.le_of_sub_eq_zero (by first | exact Nat.sub_self _ | exact Nat.sub_eq_zero_of_le (Nat.le_succ _)), by first | exact Nat.le_refl _ | exact Nat.le_add_right _ _⟩

theorem am_checkcast {n : Nat} {pc' : Nat} {ls' : aLS} {st' : List Value} {h' : AH} (hs : aex E d pc ls st h (.checkcast n) = some (.inl (pc', ls', st', h'))) : hN h ≤ hN h' ∧ hS h ≤ hS h' := by
  dsimp only [aex] at hs
  repeat' split at hs
  all_goals first | (cases hs; done) | exact (acall_inl hs).elim | exact (athr_inl hs).elim | (simp only [nx, Option.some.injEq, Sum.inl.injEq, Prod.mk.injEq] at hs; obtain ⟨rfl, rfl, rfl, rfl⟩ := hs)
  all_goals exact ⟨Nat.le_of_sub_eq_zero (by first | exact Nat.sub_self _ | exact Nat.sub_eq_zero_of_le (Nat.le_succ _)), by first | exact Nat.le_refl _ | exact Nat.le_add_right _ _⟩

theorem am_ifnonnull {n : Int} {pc' : Nat} {ls' : aLS} {st' : List Value} {h' : AH} (hs : aex E d pc ls st h (.ifnonnull n) = some (.inl (pc', ls', st', h'))) : hN h ≤ hN h' ∧ hS h ≤ hS h' := by
  dsimp only [aex] at hs
  repeat' split at hs
  all_goals first | (cases hs; done) | exact (acall_inl hs).elim | exact (athr_inl hs).elim | (simp only [nx, Option.some.injEq, Sum.inl.injEq, Prod.mk.injEq] at hs; obtain ⟨rfl, rfl, rfl, rfl⟩ := hs)
  all_goals exact ⟨Nat.le_of_sub_eq_zero (by first | exact Nat.sub_self _ | exact Nat.sub_eq_zero_of_le (Nat.le_succ _)), by first | exact Nat.le_refl _ | exact Nat.le_add_right _ _⟩

theorem am_areturn  {pc' : Nat} {ls' : aLS} {st' : List Value} {h' : AH} (hs : aex E d pc ls st h .areturn = some (.inl (pc', ls', st', h'))) : hN h ≤ hN h' ∧ hS h ≤ hS h' := by
  dsimp only [aex] at hs
  repeat' split at hs
  all_goals first | (cases hs; done) | exact (acall_inl hs).elim | exact (athr_inl hs).elim | (simp only [nx, Option.some.injEq, Sum.inl.injEq, Prod.mk.injEq] at hs; obtain ⟨rfl, rfl, rfl, rfl⟩ := hs)


theorem am_tableswitch {df lo hi : Int} {offs : Array Int} {pc' : Nat} {ls' : aLS} {st' : List Value} {h' : AH} (hs : aex E d pc ls st h (.tableswitch df lo hi offs) = some (.inl (pc', ls', st', h'))) : hN h ≤ hN h' ∧ hS h ≤ hS h' := by
  replace hs : (match st with | .int x :: t => (match (if x.toInt < lo ∨ hi < x.toInt then tgt? pc df else (offs[(x.toInt - lo).toNat]?).bind (tgt? pc)) with | some g => nx g ls t h | none => none) | _ => none) = some (.inl (pc', ls', st', h')) := hs
  split at hs
  · split at hs
    · simp only [nx, Option.some.injEq, Sum.inl.injEq, Prod.mk.injEq] at hs
      obtain ⟨rfl, rfl, rfl, rfl⟩ := hs
      exact ⟨Nat.le_refl _, Nat.le_refl _⟩
    · cases hs
  · cases hs
theorem am_multi {i m pc' : Nat} {ls' : aLS} {st' : List Value} {h' : AH} (hs : aex E d pc ls st h (.multianewarray i m) = some (.inl (pc', ls', st', h'))) : hN h ≤ hN h' ∧ hS h ≤ hS h' := by
  dsimp only [aex] at hs
  by_cases hm : m = 2
  · rw [if_pos hm] at hs
    repeat' split at hs
    all_goals first | (cases hs; done) | (simp only [nx, Option.some.injEq, Sum.inl.injEq, Prod.mk.injEq] at hs; obtain ⟨rfl, rfl, rfl, rfl⟩ := hs)
    exact ⟨by show h.1 ≤ h.1 + 1 + _; omega, by show h.2.1 ≤ h.2.1 + _ + _; omega⟩
  · rw [if_neg hm] at hs
    cases hs
theorem aex_mono {i : Instr} {pc' : Nat} {ls' : aLS} {st' : List Value} {h' : AH} (hs : aex E d pc ls st h i = some (.inl (pc', ls', st', h'))) : hN h ≤ hN h' ∧ hS h ≤ hS h' := by
  cases i
  case tableswitch => exact am_tableswitch hs
  case multianewarray => exact am_multi hs
  case iconst => exact am_iconst hs
  case bipush => exact am_bipush hs
  case sipush => exact am_sipush hs
  case lconst => exact am_lconst hs
  case iload_n => exact am_iload_n hs
  case iload => exact am_iload hs
  case lload_n => exact am_lload_n hs
  case lload => exact am_lload hs
  case aload_n => exact am_aload_n hs
  case aload => exact am_aload hs
  case istore_n => exact am_istore_n hs
  case istore => exact am_istore hs
  case lstore_n => exact am_lstore_n hs
  case lstore => exact am_lstore hs
  case astore_n => exact am_astore_n hs
  case astore => exact am_astore hs
  case iinc => exact am_iinc hs
  case iadd => exact am_iadd hs
  case isub => exact am_isub hs
  case imul => exact am_imul hs
  case ineg => exact am_ineg hs
  case iand => exact am_iand hs
  case ior => exact am_ior hs
  case ishl => exact am_ishl hs
  case ishr => exact am_ishr hs
  case iushr => exact am_iushr hs
  case ladd => exact am_ladd hs
  case lsub => exact am_lsub hs
  case lmul => exact am_lmul hs
  case lcmp => exact am_lcmp hs
  case i2l => exact am_i2l hs
  case l2i => exact am_l2i hs
  case i2b => exact am_i2b hs
  case i2c => exact am_i2c hs
  case idiv => exact am_idiv hs
  case irem => exact am_irem hs
  case ldiv => exact am_ldiv hs
  case dup => exact am_dup hs
  case pop => exact am_pop hs
  case dup2 => exact am_dup2 hs
  case goto => exact am_goto hs
  case ifCond => exact am_ifCond hs
  case if_icmp => exact am_if_icmp hs
  case getfield => exact am_getfield hs
  case putfield => exact am_putfield hs
  case getstatic => exact am_getstatic hs
  case iaload => exact am_iaload hs
  case baload => exact am_baload hs
  case laload => exact am_laload hs
  case aaload => exact am_aaload hs
  case iastore => exact am_iastore hs
  case bastore => exact am_bastore hs
  case lastore => exact am_lastore hs
  case aastore => exact am_aastore hs
  case arraylength => exact am_arraylength hs
  case new => exact am_new hs
  case newarray => exact am_newarray hs
  case anewarray => exact am_anewarray hs
  case ldc => exact am_ldc hs
  case ldc2_w => exact am_ldc2_w hs
  case invokestatic => exact am_invokestatic hs
  case invokevirtual => exact am_invokevirtual hs
  case invokespecial => exact am_invokespecial hs
  case ireturn => exact am_ireturn hs
  case lreturn => exact am_lreturn hs
  case return_ => exact am_return_ hs
  case aconst_null => exact am_aconst_null hs
  case checkcast => exact am_checkcast hs
  case ifnonnull => exact am_ifnonnull hs
  case areturn => exact am_areturn hs
  all_goals exact absurd (show none = some _ from hs) (fun z => nomatch z)
def isX : Instr → Bool
  | .invokestatic _ => true
  | .invokevirtual _ => true
  | .invokespecial _ => true
  | .ireturn => true
  | .lreturn => true
  | .return_ => true
  | .areturn => true
  | .new _ => true
  | _ => false

theorem ax_aconst_null  {z : Option Value ⊕ ((Nat × List Value × List Value) ⊕ Nat)} (hs : aex E d pc ls st h .aconst_null = some (.inr z)) : False := by
  dsimp only [aex] at hs
  repeat' split at hs
  all_goals first | (cases hs; done) | (simp only [nx, Option.some.injEq] at hs; cases hs; done)

theorem ax_checkcast {n : Nat} {z : Option Value ⊕ ((Nat × List Value × List Value) ⊕ Nat)} (hs : aex E d pc ls st h (.checkcast n) = some (.inr z)) : False := by
  dsimp only [aex] at hs
  repeat' split at hs
  all_goals first | (cases hs; done) | (simp only [nx, Option.some.injEq] at hs; cases hs; done)

theorem ax_ifnonnull {n : Int} {z : Option Value ⊕ ((Nat × List Value × List Value) ⊕ Nat)} (hs : aex E d pc ls st h (.ifnonnull n) = some (.inr z)) : False := by
  dsimp only [aex] at hs
  repeat' split at hs
  all_goals first | (cases hs; done) | (simp only [nx, Option.some.injEq] at hs; cases hs; done)

theorem ax_iconst {n : Int} {z : Option Value ⊕ ((Nat × List Value × List Value) ⊕ Nat)} (hs : aex E d pc ls st h (.iconst n) = some (.inr z)) : False := by
  dsimp only [aex] at hs
  repeat' split at hs
  all_goals first | (cases hs; done) | (simp only [nx, Option.some.injEq] at hs; cases hs; done)

theorem ax_bipush {n : Int} {z : Option Value ⊕ ((Nat × List Value × List Value) ⊕ Nat)} (hs : aex E d pc ls st h (.bipush n) = some (.inr z)) : False := by
  dsimp only [aex] at hs
  repeat' split at hs
  all_goals first | (cases hs; done) | (simp only [nx, Option.some.injEq] at hs; cases hs; done)

theorem ax_sipush {n : Int} {z : Option Value ⊕ ((Nat × List Value × List Value) ⊕ Nat)} (hs : aex E d pc ls st h (.sipush n) = some (.inr z)) : False := by
  dsimp only [aex] at hs
  repeat' split at hs
  all_goals first | (cases hs; done) | (simp only [nx, Option.some.injEq] at hs; cases hs; done)

theorem ax_lconst {n : Fin 2} {z : Option Value ⊕ ((Nat × List Value × List Value) ⊕ Nat)} (hs : aex E d pc ls st h (.lconst n) = some (.inr z)) : False := by
  dsimp only [aex] at hs
  repeat' split at hs
  all_goals first | (cases hs; done) | (simp only [nx, Option.some.injEq] at hs; cases hs; done)

theorem ax_iload_n {n : Fin 4} {z : Option Value ⊕ ((Nat × List Value × List Value) ⊕ Nat)} (hs : aex E d pc ls st h (.iload_n n) = some (.inr z)) : False := by
  dsimp only [aex] at hs
  repeat' split at hs
  all_goals first | (cases hs; done) | (simp only [nx, Option.some.injEq] at hs; cases hs; done)

theorem ax_iload {n : Nat} {z : Option Value ⊕ ((Nat × List Value × List Value) ⊕ Nat)} (hs : aex E d pc ls st h (.iload n) = some (.inr z)) : False := by
  dsimp only [aex] at hs
  repeat' split at hs
  all_goals first | (cases hs; done) | (simp only [nx, Option.some.injEq] at hs; cases hs; done)

theorem ax_lload_n {n : Fin 4} {z : Option Value ⊕ ((Nat × List Value × List Value) ⊕ Nat)} (hs : aex E d pc ls st h (.lload_n n) = some (.inr z)) : False := by
  dsimp only [aex] at hs
  repeat' split at hs
  all_goals first | (cases hs; done) | (simp only [nx, Option.some.injEq] at hs; cases hs; done)

theorem ax_lload {n : Nat} {z : Option Value ⊕ ((Nat × List Value × List Value) ⊕ Nat)} (hs : aex E d pc ls st h (.lload n) = some (.inr z)) : False := by
  dsimp only [aex] at hs
  repeat' split at hs
  all_goals first | (cases hs; done) | (simp only [nx, Option.some.injEq] at hs; cases hs; done)

theorem ax_aload_n {n : Fin 4} {z : Option Value ⊕ ((Nat × List Value × List Value) ⊕ Nat)} (hs : aex E d pc ls st h (.aload_n n) = some (.inr z)) : False := by
  dsimp only [aex] at hs
  repeat' split at hs
  all_goals first | (cases hs; done) | (simp only [nx, Option.some.injEq] at hs; cases hs; done)

theorem ax_aload {n : Nat} {z : Option Value ⊕ ((Nat × List Value × List Value) ⊕ Nat)} (hs : aex E d pc ls st h (.aload n) = some (.inr z)) : False := by
  dsimp only [aex] at hs
  repeat' split at hs
  all_goals first | (cases hs; done) | (simp only [nx, Option.some.injEq] at hs; cases hs; done)

theorem ax_istore_n {n : Fin 4} {z : Option Value ⊕ ((Nat × List Value × List Value) ⊕ Nat)} (hs : aex E d pc ls st h (.istore_n n) = some (.inr z)) : False := by
  dsimp only [aex] at hs
  repeat' split at hs
  all_goals first | (cases hs; done) | (simp only [nx, Option.some.injEq] at hs; cases hs; done)

theorem ax_istore {n : Nat} {z : Option Value ⊕ ((Nat × List Value × List Value) ⊕ Nat)} (hs : aex E d pc ls st h (.istore n) = some (.inr z)) : False := by
  dsimp only [aex] at hs
  repeat' split at hs
  all_goals first | (cases hs; done) | (simp only [nx, Option.some.injEq] at hs; cases hs; done)

theorem ax_lstore_n {n : Fin 4} {z : Option Value ⊕ ((Nat × List Value × List Value) ⊕ Nat)} (hs : aex E d pc ls st h (.lstore_n n) = some (.inr z)) : False := by
  dsimp only [aex] at hs
  repeat' split at hs
  all_goals first | (cases hs; done) | (simp only [nx, Option.some.injEq] at hs; cases hs; done)

theorem ax_lstore {n : Nat} {z : Option Value ⊕ ((Nat × List Value × List Value) ⊕ Nat)} (hs : aex E d pc ls st h (.lstore n) = some (.inr z)) : False := by
  dsimp only [aex] at hs
  repeat' split at hs
  all_goals first | (cases hs; done) | (simp only [nx, Option.some.injEq] at hs; cases hs; done)

theorem ax_astore_n {n : Fin 4} {z : Option Value ⊕ ((Nat × List Value × List Value) ⊕ Nat)} (hs : aex E d pc ls st h (.astore_n n) = some (.inr z)) : False := by
  dsimp only [aex] at hs
  repeat' split at hs
  all_goals first | (cases hs; done) | (simp only [nx, Option.some.injEq] at hs; cases hs; done)

theorem ax_astore {n : Nat} {z : Option Value ⊕ ((Nat × List Value × List Value) ⊕ Nat)} (hs : aex E d pc ls st h (.astore n) = some (.inr z)) : False := by
  dsimp only [aex] at hs
  repeat' split at hs
  all_goals first | (cases hs; done) | (simp only [nx, Option.some.injEq] at hs; cases hs; done)

theorem ax_iinc {n : Nat} {q : Int} {z : Option Value ⊕ ((Nat × List Value × List Value) ⊕ Nat)} (hs : aex E d pc ls st h (.iinc n q) = some (.inr z)) : False := by
  dsimp only [aex] at hs
  repeat' split at hs
  all_goals first | (cases hs; done) | (simp only [nx, Option.some.injEq] at hs; cases hs; done)

theorem ax_iadd  {z : Option Value ⊕ ((Nat × List Value × List Value) ⊕ Nat)} (hs : aex E d pc ls st h .iadd = some (.inr z)) : False := by
  dsimp only [aex] at hs
  repeat' split at hs
  all_goals first | (cases hs; done) | (simp only [nx, Option.some.injEq] at hs; cases hs; done)

theorem ax_isub  {z : Option Value ⊕ ((Nat × List Value × List Value) ⊕ Nat)} (hs : aex E d pc ls st h .isub = some (.inr z)) : False := by
  dsimp only [aex] at hs
  repeat' split at hs
  all_goals first | (cases hs; done) | (simp only [nx, Option.some.injEq] at hs; cases hs; done)

theorem ax_imul  {z : Option Value ⊕ ((Nat × List Value × List Value) ⊕ Nat)} (hs : aex E d pc ls st h .imul = some (.inr z)) : False := by
  dsimp only [aex] at hs
  repeat' split at hs
  all_goals first | (cases hs; done) | (simp only [nx, Option.some.injEq] at hs; cases hs; done)

theorem ax_ineg  {z : Option Value ⊕ ((Nat × List Value × List Value) ⊕ Nat)} (hs : aex E d pc ls st h .ineg = some (.inr z)) : False := by
  dsimp only [aex] at hs
  repeat' split at hs
  all_goals first | (cases hs; done) | (simp only [nx, Option.some.injEq] at hs; cases hs; done)

theorem ax_iand  {z : Option Value ⊕ ((Nat × List Value × List Value) ⊕ Nat)} (hs : aex E d pc ls st h .iand = some (.inr z)) : False := by
  dsimp only [aex] at hs
  repeat' split at hs
  all_goals first | (cases hs; done) | (simp only [nx, Option.some.injEq] at hs; cases hs; done)

theorem ax_ior  {z : Option Value ⊕ ((Nat × List Value × List Value) ⊕ Nat)} (hs : aex E d pc ls st h .ior = some (.inr z)) : False := by
  dsimp only [aex] at hs
  repeat' split at hs
  all_goals first | (cases hs; done) | (simp only [nx, Option.some.injEq] at hs; cases hs; done)

theorem ax_ishl  {z : Option Value ⊕ ((Nat × List Value × List Value) ⊕ Nat)} (hs : aex E d pc ls st h .ishl = some (.inr z)) : False := by
  dsimp only [aex] at hs
  repeat' split at hs
  all_goals first | (cases hs; done) | (simp only [nx, Option.some.injEq] at hs; cases hs; done)

theorem ax_ishr  {z : Option Value ⊕ ((Nat × List Value × List Value) ⊕ Nat)} (hs : aex E d pc ls st h .ishr = some (.inr z)) : False := by
  dsimp only [aex] at hs
  repeat' split at hs
  all_goals first | (cases hs; done) | (simp only [nx, Option.some.injEq] at hs; cases hs; done)

theorem ax_iushr  {z : Option Value ⊕ ((Nat × List Value × List Value) ⊕ Nat)} (hs : aex E d pc ls st h .iushr = some (.inr z)) : False := by
  dsimp only [aex] at hs
  repeat' split at hs
  all_goals first | (cases hs; done) | (simp only [nx, Option.some.injEq] at hs; cases hs; done)

theorem ax_ladd  {z : Option Value ⊕ ((Nat × List Value × List Value) ⊕ Nat)} (hs : aex E d pc ls st h .ladd = some (.inr z)) : False := by
  dsimp only [aex] at hs
  repeat' split at hs
  all_goals first | (cases hs; done) | (simp only [nx, Option.some.injEq] at hs; cases hs; done)

theorem ax_lsub  {z : Option Value ⊕ ((Nat × List Value × List Value) ⊕ Nat)} (hs : aex E d pc ls st h .lsub = some (.inr z)) : False := by
  dsimp only [aex] at hs
  repeat' split at hs
  all_goals first | (cases hs; done) | (simp only [nx, Option.some.injEq] at hs; cases hs; done)

theorem ax_lmul  {z : Option Value ⊕ ((Nat × List Value × List Value) ⊕ Nat)} (hs : aex E d pc ls st h .lmul = some (.inr z)) : False := by
  dsimp only [aex] at hs
  repeat' split at hs
  all_goals first | (cases hs; done) | (simp only [nx, Option.some.injEq] at hs; cases hs; done)

theorem ax_lcmp  {z : Option Value ⊕ ((Nat × List Value × List Value) ⊕ Nat)} (hs : aex E d pc ls st h .lcmp = some (.inr z)) : False := by
  dsimp only [aex] at hs
  repeat' split at hs
  all_goals first | (cases hs; done) | (simp only [nx, Option.some.injEq] at hs; cases hs; done)

theorem ax_i2l  {z : Option Value ⊕ ((Nat × List Value × List Value) ⊕ Nat)} (hs : aex E d pc ls st h .i2l = some (.inr z)) : False := by
  dsimp only [aex] at hs
  repeat' split at hs
  all_goals first | (cases hs; done) | (simp only [nx, Option.some.injEq] at hs; cases hs; done)

theorem ax_l2i  {z : Option Value ⊕ ((Nat × List Value × List Value) ⊕ Nat)} (hs : aex E d pc ls st h .l2i = some (.inr z)) : False := by
  dsimp only [aex] at hs
  repeat' split at hs
  all_goals first | (cases hs; done) | (simp only [nx, Option.some.injEq] at hs; cases hs; done)

theorem ax_i2b  {z : Option Value ⊕ ((Nat × List Value × List Value) ⊕ Nat)} (hs : aex E d pc ls st h .i2b = some (.inr z)) : False := by
  dsimp only [aex] at hs
  repeat' split at hs
  all_goals first | (cases hs; done) | (simp only [nx, Option.some.injEq] at hs; cases hs; done)

theorem ax_i2c  {z : Option Value ⊕ ((Nat × List Value × List Value) ⊕ Nat)} (hs : aex E d pc ls st h .i2c = some (.inr z)) : False := by
  dsimp only [aex] at hs
  repeat' split at hs
  all_goals first | (cases hs; done) | (simp only [nx, Option.some.injEq] at hs; cases hs; done)

theorem ax_idiv  {z : Option Value ⊕ ((Nat × List Value × List Value) ⊕ Nat)} (hs : aex E d pc ls st h .idiv = some (.inr z)) : False := by
  dsimp only [aex] at hs
  repeat' split at hs
  all_goals first | (cases hs; done) | (simp only [nx, Option.some.injEq] at hs; cases hs; done)

theorem ax_irem  {z : Option Value ⊕ ((Nat × List Value × List Value) ⊕ Nat)} (hs : aex E d pc ls st h .irem = some (.inr z)) : False := by
  dsimp only [aex] at hs
  repeat' split at hs
  all_goals first | (cases hs; done) | (simp only [nx, Option.some.injEq] at hs; cases hs; done)

theorem ax_ldiv  {z : Option Value ⊕ ((Nat × List Value × List Value) ⊕ Nat)} (hs : aex E d pc ls st h .ldiv = some (.inr z)) : False := by
  dsimp only [aex] at hs
  repeat' split at hs
  all_goals first | (cases hs; done) | (simp only [nx, Option.some.injEq] at hs; cases hs; done)

theorem ax_dup  {z : Option Value ⊕ ((Nat × List Value × List Value) ⊕ Nat)} (hs : aex E d pc ls st h .dup = some (.inr z)) : False := by
  dsimp only [aex] at hs
  repeat' split at hs
  all_goals first | (cases hs; done) | (simp only [nx, Option.some.injEq] at hs; cases hs; done)

theorem ax_pop  {z : Option Value ⊕ ((Nat × List Value × List Value) ⊕ Nat)} (hs : aex E d pc ls st h .pop = some (.inr z)) : False := by
  dsimp only [aex] at hs
  repeat' split at hs
  all_goals first | (cases hs; done) | (simp only [nx, Option.some.injEq] at hs; cases hs; done)

theorem ax_dup2  {z : Option Value ⊕ ((Nat × List Value × List Value) ⊕ Nat)} (hs : aex E d pc ls st h .dup2 = some (.inr z)) : False := by
  dsimp only [aex] at hs
  repeat' split at hs
  all_goals first | (cases hs; done) | (simp only [nx, Option.some.injEq] at hs; cases hs; done)

theorem ax_goto {n : Int} {z : Option Value ⊕ ((Nat × List Value × List Value) ⊕ Nat)} (hs : aex E d pc ls st h (.goto n) = some (.inr z)) : False := by
  dsimp only [aex] at hs
  repeat' split at hs
  all_goals first | (cases hs; done) | (simp only [nx, Option.some.injEq] at hs; cases hs; done)

theorem ax_ifCond {c : ClassFile.Cond} {n : Int} {z : Option Value ⊕ ((Nat × List Value × List Value) ⊕ Nat)} (hs : aex E d pc ls st h (.ifCond c n) = some (.inr z)) : False := by
  dsimp only [aex] at hs
  repeat' split at hs
  all_goals first | (cases hs; done) | (simp only [nx, Option.some.injEq] at hs; cases hs; done)

theorem ax_if_icmp {c : ClassFile.Cond} {n : Int} {z : Option Value ⊕ ((Nat × List Value × List Value) ⊕ Nat)} (hs : aex E d pc ls st h (.if_icmp c n) = some (.inr z)) : False := by
  dsimp only [aex] at hs
  repeat' split at hs
  all_goals first | (cases hs; done) | (simp only [nx, Option.some.injEq] at hs; cases hs; done)

theorem ax_getfield {n : Nat} {z : Option Value ⊕ ((Nat × List Value × List Value) ⊕ Nat)} (hs : aex E d pc ls st h (.getfield n) = some (.inr z)) : False := by
  dsimp only [aex] at hs
  repeat' split at hs
  all_goals first | (cases hs; done) | (simp only [nx, Option.some.injEq] at hs; cases hs; done)

theorem ax_putfield {n : Nat} {z : Option Value ⊕ ((Nat × List Value × List Value) ⊕ Nat)} (hs : aex E d pc ls st h (.putfield n) = some (.inr z)) : False := by
  dsimp only [aex] at hs
  repeat' split at hs
  all_goals first | (cases hs; done) | (simp only [nx, Option.some.injEq] at hs; cases hs; done)

theorem ax_getstatic {n : Nat} {z : Option Value ⊕ ((Nat × List Value × List Value) ⊕ Nat)} (hs : aex E d pc ls st h (.getstatic n) = some (.inr z)) : False := by
  dsimp only [aex] at hs
  repeat' split at hs
  all_goals first | (cases hs; done) | (simp only [nx, Option.some.injEq] at hs; cases hs; done)

theorem ax_iaload  {z : Option Value ⊕ ((Nat × List Value × List Value) ⊕ Nat)} (hs : aex E d pc ls st h .iaload = some (.inr z)) : False := by
  dsimp only [aex] at hs
  repeat' split at hs
  all_goals first | (cases hs; done) | (simp only [nx, Option.some.injEq] at hs; cases hs; done)

theorem ax_baload  {z : Option Value ⊕ ((Nat × List Value × List Value) ⊕ Nat)} (hs : aex E d pc ls st h .baload = some (.inr z)) : False := by
  dsimp only [aex] at hs
  repeat' split at hs
  all_goals first | (cases hs; done) | (simp only [nx, Option.some.injEq] at hs; cases hs; done)

theorem ax_laload  {z : Option Value ⊕ ((Nat × List Value × List Value) ⊕ Nat)} (hs : aex E d pc ls st h .laload = some (.inr z)) : False := by
  dsimp only [aex] at hs
  repeat' split at hs
  all_goals first | (cases hs; done) | (simp only [nx, Option.some.injEq] at hs; cases hs; done)

theorem ax_aaload  {z : Option Value ⊕ ((Nat × List Value × List Value) ⊕ Nat)} (hs : aex E d pc ls st h .aaload = some (.inr z)) : False := by
  dsimp only [aex] at hs
  repeat' split at hs
  all_goals first | (cases hs; done) | (simp only [nx, Option.some.injEq] at hs; cases hs; done)

theorem ax_iastore  {z : Option Value ⊕ ((Nat × List Value × List Value) ⊕ Nat)} (hs : aex E d pc ls st h .iastore = some (.inr z)) : False := by
  dsimp only [aex] at hs
  repeat' split at hs
  all_goals first | (cases hs; done) | (simp only [nx, Option.some.injEq] at hs; cases hs; done)

theorem ax_bastore  {z : Option Value ⊕ ((Nat × List Value × List Value) ⊕ Nat)} (hs : aex E d pc ls st h .bastore = some (.inr z)) : False := by
  dsimp only [aex] at hs
  repeat' split at hs
  all_goals first | (cases hs; done) | (simp only [nx, Option.some.injEq] at hs; cases hs; done)

theorem ax_lastore  {z : Option Value ⊕ ((Nat × List Value × List Value) ⊕ Nat)} (hs : aex E d pc ls st h .lastore = some (.inr z)) : False := by
  dsimp only [aex] at hs
  repeat' split at hs
  all_goals first | (cases hs; done) | (simp only [nx, Option.some.injEq] at hs; cases hs; done)

theorem ax_aastore  {z : Option Value ⊕ ((Nat × List Value × List Value) ⊕ Nat)} (hs : aex E d pc ls st h .aastore = some (.inr z)) : False := by
  dsimp only [aex] at hs
  repeat' split at hs
  all_goals first | (cases hs; done) | (simp only [nx, Option.some.injEq] at hs; cases hs; done)

theorem ax_arraylength  {z : Option Value ⊕ ((Nat × List Value × List Value) ⊕ Nat)} (hs : aex E d pc ls st h .arraylength = some (.inr z)) : False := by
  dsimp only [aex] at hs
  repeat' split at hs
  all_goals first | (cases hs; done) | (simp only [nx, Option.some.injEq] at hs; cases hs; done)

theorem ax_newarray {n : ArrayType} {z : Option Value ⊕ ((Nat × List Value × List Value) ⊕ Nat)} (hs : aex E d pc ls st h (.newarray n) = some (.inr z)) : False := by
  dsimp only [aex] at hs
  repeat' split at hs
  all_goals first | (cases hs; done) | (simp only [nx, Option.some.injEq] at hs; cases hs; done)

theorem ax_anewarray {n : Nat} {z : Option Value ⊕ ((Nat × List Value × List Value) ⊕ Nat)} (hs : aex E d pc ls st h (.anewarray n) = some (.inr z)) : False := by
  dsimp only [aex] at hs
  repeat' split at hs
  all_goals first | (cases hs; done) | (simp only [nx, Option.some.injEq] at hs; cases hs; done)

theorem ax_ldc {n : Nat} {z : Option Value ⊕ ((Nat × List Value × List Value) ⊕ Nat)} (hs : aex E d pc ls st h (.ldc n) = some (.inr z)) : False := by
  dsimp only [aex] at hs
  repeat' split at hs
  all_goals first | (cases hs; done) | (simp only [nx, Option.some.injEq] at hs; cases hs; done)

theorem ax_ldc2_w {n : Nat} {z : Option Value ⊕ ((Nat × List Value × List Value) ⊕ Nat)} (hs : aex E d pc ls st h (.ldc2_w n) = some (.inr z)) : False := by
  dsimp only [aex] at hs
  repeat' split at hs
  all_goals first | (cases hs; done) | (simp only [nx, Option.some.injEq] at hs; cases hs; done)

theorem ax_tableswitch {df lo hi : Int} {offs : Array Int} {z : Option Value ⊕ ((Nat × List Value × List Value) ⊕ Nat)} (hs : aex E d pc ls st h (.tableswitch df lo hi offs) = some (.inr z)) : False := by
  replace hs : (match st with | .int x :: t => (match (if x.toInt < lo ∨ hi < x.toInt then tgt? pc df else (offs[(x.toInt - lo).toNat]?).bind (tgt? pc)) with | some g => nx g ls t h | none => none) | _ => none) = some (.inr z) := hs
  split at hs
  · split at hs
    · simp only [nx, Option.some.injEq] at hs
      cases hs
    · cases hs
  · cases hs
theorem ax_multi {i m : Nat} {z : Option Value ⊕ ((Nat × List Value × List Value) ⊕ Nat)} (hs : aex E d pc ls st h (.multianewarray i m) = some (.inr z)) : False := by
  dsimp only [aex] at hs
  by_cases hm : m = 2
  · rw [if_pos hm] at hs
    repeat' split at hs
    all_goals first | (cases hs; done) | (simp only [nx, Option.some.injEq] at hs; cases hs; done)
  · rw [if_neg hm] at hs
    cases hs
theorem aex_inr {i : Instr} {z : Option Value ⊕ ((Nat × List Value × List Value) ⊕ Nat)} (hx : isX i = false) (hs : aex E d pc ls st h i = some (.inr z)) : False := by
  cases i
  case tableswitch => exact ax_tableswitch hs
  case multianewarray => exact ax_multi hs
  case iconst => exact ax_iconst hs
  case bipush => exact ax_bipush hs
  case sipush => exact ax_sipush hs
  case lconst => exact ax_lconst hs
  case iload_n => exact ax_iload_n hs
  case iload => exact ax_iload hs
  case lload_n => exact ax_lload_n hs
  case lload => exact ax_lload hs
  case aload_n => exact ax_aload_n hs
  case aload => exact ax_aload hs
  case istore_n => exact ax_istore_n hs
  case istore => exact ax_istore hs
  case lstore_n => exact ax_lstore_n hs
  case lstore => exact ax_lstore hs
  case astore_n => exact ax_astore_n hs
  case astore => exact ax_astore hs
  case iinc => exact ax_iinc hs
  case iadd => exact ax_iadd hs
  case isub => exact ax_isub hs
  case imul => exact ax_imul hs
  case ineg => exact ax_ineg hs
  case iand => exact ax_iand hs
  case ior => exact ax_ior hs
  case ishl => exact ax_ishl hs
  case ishr => exact ax_ishr hs
  case iushr => exact ax_iushr hs
  case ladd => exact ax_ladd hs
  case lsub => exact ax_lsub hs
  case lmul => exact ax_lmul hs
  case lcmp => exact ax_lcmp hs
  case i2l => exact ax_i2l hs
  case l2i => exact ax_l2i hs
  case i2b => exact ax_i2b hs
  case i2c => exact ax_i2c hs
  case idiv => exact ax_idiv hs
  case irem => exact ax_irem hs
  case ldiv => exact ax_ldiv hs
  case dup => exact ax_dup hs
  case pop => exact ax_pop hs
  case dup2 => exact ax_dup2 hs
  case goto => exact ax_goto hs
  case ifCond => exact ax_ifCond hs
  case if_icmp => exact ax_if_icmp hs
  case getfield => exact ax_getfield hs
  case putfield => exact ax_putfield hs
  case getstatic => exact ax_getstatic hs
  case iaload => exact ax_iaload hs
  case baload => exact ax_baload hs
  case laload => exact ax_laload hs
  case aaload => exact ax_aaload hs
  case iastore => exact ax_iastore hs
  case bastore => exact ax_bastore hs
  case lastore => exact ax_lastore hs
  case aastore => exact ax_aastore hs
  case arraylength => exact ax_arraylength hs
  case newarray => exact ax_newarray hs
  case anewarray => exact ax_anewarray hs
  case ldc => exact ax_ldc hs
  case ldc2_w => exact ax_ldc2_w hs
  case invokestatic => cases hx
  case invokevirtual => cases hx
  case invokespecial => cases hx
  case ireturn => cases hx
  case lreturn => cases hx
  case return_ => cases hx
  case areturn => cases hx
  case aconst_null => exact ax_aconst_null hs
  case checkcast => exact ax_checkcast hs
  case ifnonnull => exact ax_ifnonnull hs
  case new => cases hx
  all_goals exact absurd (show none = some _ from hs) (fun z => nomatch z)
theorem acall_some {t n t' : Nat} {args rest : List Value} (hs : acall t n st = some (.inr (.inr (.inl (t', args, rest))))) : t' = t ∧ st = args.reverse ++ rest ∧ args.length = n ∧ (rest.map fun v => v.category).sum ≤ 8 ∧ args = (st.take n).reverse := by
  unfold acall at hs
  split at hs
  · rename_i hc
    cases hs
    refine ⟨rfl, by rw [List.reverse_reverse, List.take_append_drop], by rw [List.length_reverse, List.length_take]; omega, hc.2, rfl⟩
  · cases hs
theorem acall_not {t n : Nat} {z : Option Value} (hs : acall t n st = some (.inr (.inl z))) : False := by
  unfold acall at hs
  split at hs <;> cases hs
theorem acall_not2 {t n e : Nat} (hs : acall t n st = some (.inr (.inr (.inr e)))) : False := by
  unfold acall at hs
  split at hs <;> cases hs
theorem athr_not {i : Nat} {z : Option Value} (hs : athr E d pc i st = some (.inr (.inl z))) : False := by
  unfold athr at hs
  repeat' split at hs
  all_goals cases hs
theorem athr_not2 {i : Nat} {z : Nat × List Value × List Value} (hs : athr E d pc i st = some (.inr (.inr (.inl z)))) : False := by
  unfold athr at hs
  repeat' split at hs
  all_goals cases hs
/-- the receiver is the first of the arguments -/
theorem recv_first {n : Nat} {args rest : List Value} {c : Nat} (h1 : st = args.reverse ++ rest) (h2 : args.length = n + 1) (hr : recv h c st[n]? = true) : ∃ v As, args = v :: As ∧ As.length = n ∧ recv h c (some v) = true := by
  cases args with
  | nil => cases h2
  | cons v As =>
    refine ⟨v, As, rfl, by simpa using h2, ?_⟩
    have e : st[n]? = some v := by
      have hn : As.length = n := by simpa using h2
      rw [h1, List.reverse_cons, List.append_assoc, List.getElem?_append_right (by rw [List.length_reverse]; omega), List.length_reverse, hn, Nat.sub_self]
      rfl
    rw [e] at hr
    exact hr
def callOK (E : MI) (h : AH) (i : Instr) (t : Nat) (args rest st : List Value) : Prop :=
  ∃ (idx kd wi : Nat) (host : String) (Et : MI), look (E.2.2.2.2.1, idx) mthT = some (kd, wi, t, host) ∧ kd < 6 ∧ mtab[t]? = some Et ∧ ilen i = 3 ∧ (rest.map fun v => v.category).sum ≤ 8 ∧ st = args.reverse ++ rest ∧
    ((kd ≤ 1 ∧ i = .invokestatic idx ∧ args.length = npar Et) ∨ ((kd = 2 ∨ kd = 3) ∧ i = .invokevirtual idx ∧ ∃ v As, args = v :: As ∧ As.length = npar Et ∧ recv h Et.2.2.2.2.1 (some v) = true) ∨ ((kd = 4 ∨ kd = 5) ∧ i = .invokespecial idx ∧ ∃ v As, args = v :: As ∧ As.length = npar Et ∧ recv h Et.2.2.2.2.1 (some v) = true))
theorem recvU_first {n : Nat} {args rest : List Value} (h1 : st = args.reverse ++ rest) (h2 : args.length = n + 1) (hr : recvU h st[n]? = true) : ∃ v As, args = v :: As ∧ As.length = n ∧ recvU h (some v) = true := by
  cases args with
  | nil => cases h2
  | cons v As =>
    refine ⟨v, As, rfl, by simpa using h2, ?_⟩
    have e : st[n]? = some v := by
      have hn : As.length = n := by simpa using h2
      rw [h1, List.reverse_cons, List.append_assoc, List.getElem?_append_right (by rw [List.length_reverse]; omega), List.length_reverse, hn, Nat.sub_self]
      rfl
    rw [e] at hr
    exact hr
def callUK (E : MI) (h : AH) (i : Instr) (t : Nat) (args rest st : List Value) : Prop :=
  ∃ (idx kd wi : Nat) (host : String) (Et : MI), look (E.2.2.2.2.1, idx) mthT = some (kd, wi, t, host) ∧ mtab[t]? = some Et ∧ ilen i = 3 ∧ (rest.map fun v => v.category).sum ≤ 8 ∧ st = args.reverse ++ rest ∧
    ((kd = 10 ∧ i = .invokevirtual idx) ∨ (kd = 11 ∧ i = .invokespecial idx)) ∧ ∃ v As, args = v :: As ∧ As.length = npar Et ∧ recvU h (some v) = true
theorem ac_static {n t : Nat} {args rest : List Value} (hs : aex E d pc ls st h (.invokestatic n) = some (.inr (.inr (.inl (t, args, rest))))) : callOK E h (.invokestatic n) t args rest st := by
  dsimp only [aex] at hs
  repeat' split at hs
  all_goals first | (cases hs; done) | (simp only [nx, Option.some.injEq] at hs; cases hs; done) | skip
  all_goals
    obtain ⟨rfl, a2, a3, a4, -⟩ := acall_some hs
    exact ⟨n, _, _, _, _, by assumption, by decide, by assumption, rfl, a4, a2, Or.inl ⟨by decide, rfl, a3⟩⟩
theorem ac_virtual {n t : Nat} {args rest : List Value} (hs : aex E d pc ls st h (.invokevirtual n) = some (.inr (.inr (.inl (t, args, rest))))) : callOK E h (.invokevirtual n) t args rest st ∨ callUK E h (.invokevirtual n) t args rest st := by
  dsimp only [aex] at hs
  repeat' split at hs
  all_goals first | (cases hs; done) | (simp only [nx, Option.some.injEq] at hs; cases hs; done) | skip
  · obtain ⟨rfl, a2, a3, a4, -⟩ := acall_some hs
    exact Or.inl ⟨n, _, _, _, _, by assumption, by decide, by assumption, rfl, a4, a2, Or.inr (Or.inl ⟨Or.inl rfl, rfl, recv_first a2 a3 (by assumption)⟩)⟩
  · obtain ⟨rfl, a2, a3, a4, -⟩ := acall_some hs
    exact Or.inl ⟨n, _, _, _, _, by assumption, by decide, by assumption, rfl, a4, a2, Or.inr (Or.inl ⟨Or.inr rfl, rfl, recv_first a2 a3 (by assumption)⟩)⟩
  · obtain ⟨rfl, a2, a3, a4, -⟩ := acall_some hs
    exact Or.inr ⟨n, _, _, _, _, by assumption, by assumption, rfl, a4, a2, Or.inl ⟨rfl, rfl⟩, recvU_first a2 a3 (by assumption)⟩
theorem ac_special {n t : Nat} {args rest : List Value} (hs : aex E d pc ls st h (.invokespecial n) = some (.inr (.inr (.inl (t, args, rest))))) : callOK E h (.invokespecial n) t args rest st ∨ callUK E h (.invokespecial n) t args rest st := by
  dsimp only [aex] at hs
  repeat' split at hs
  all_goals first | (cases hs; done) | (simp only [nx, Option.some.injEq] at hs; cases hs; done) | skip
  · obtain ⟨rfl, a2, a3, a4, -⟩ := acall_some hs
    exact Or.inl ⟨n, _, _, _, _, by assumption, by decide, by assumption, rfl, a4, a2, Or.inr (Or.inr ⟨Or.inl rfl, rfl, recv_first a2 a3 (by assumption)⟩)⟩
  · obtain ⟨rfl, a2, a3, a4, -⟩ := acall_some hs
    exact Or.inl ⟨n, _, _, _, _, by assumption, by decide, by assumption, rfl, a4, a2, Or.inr (Or.inr ⟨Or.inr rfl, rfl, recv_first a2 a3 (by assumption)⟩)⟩
  · obtain ⟨rfl, a2, a3, a4, -⟩ := acall_some hs
    exact Or.inr ⟨n, _, _, _, _, by assumption, by assumption, rfl, a4, a2, Or.inr ⟨rfl, rfl⟩, recvU_first a2 a3 (by assumption)⟩
theorem aex_call {i : Instr} {t : Nat} {args rest : List Value} (hs : aex E d pc ls st h i = some (.inr (.inr (.inl (t, args, rest))))) : callOK E h i t args rest st ∨ callUK E h i t args rest st := by
  cases hx : isX i with
  | false => exact (aex_inr hx hs).elim
  | true =>
    cases i <;> first | (cases hx; done) | exact Or.inl (ac_static hs) | exact ac_virtual hs | exact ac_special hs | skip
    all_goals
      dsimp only [aex] at hs
      repeat' split at hs
      all_goals first | (cases hs; done) | (simp only [nx, Option.some.injEq] at hs; cases hs; done) | exact (athr_not2 hs).elim
theorem aex_ret {i : Instr} {v : Option Value} (hs : aex E d pc ls st h i = some (.inr (.inl v))) : (∃ x ty, i = .ireturn ∧ st = [.int x] ∧ v = some (.int x) ∧ E.2.2.2.1 = some ty ∧ narrow ty (.int x) = .int x) ∨ (∃ x, i = .lreturn ∧ st = [.long x] ∧ v = some (.long x) ∧ E.2.2.2.1 = some .long) ∨ (i = .return_ ∧ st = [] ∧ v = none ∧ E.2.2.2.1 = none) ∨ (∃ x ty, i = .areturn ∧ st = [x] ∧ v = some x ∧ E.2.2.2.1 = some ty ∧ isR x = true ∧ ty.isReference = true) := by
  cases hx : isX i with
  | false => exact (aex_inr hx hs).elim
  | true =>
    cases i <;> first | (cases hx; done) | skip
    all_goals
      dsimp only [aex] at hs
      repeat' split at hs
      all_goals first | (cases hs; done) | (simp only [nx, Option.some.injEq] at hs; cases hs; done) | exact (athr_not hs).elim | exact (acall_not hs).elim | skip
    · cases hs
      exact Or.inr (Or.inr (Or.inr ⟨_, _, rfl, rfl, rfl, by assumption, And.left (by assumption), And.right (by assumption)⟩))
    · cases hs
      exact Or.inl ⟨_, _, rfl, rfl, rfl, by assumption, by assumption⟩
    · cases hs
      exact Or.inr (Or.inl ⟨_, rfl, rfl, rfl, by assumption⟩)
    · cases hs
      exact Or.inr (Or.inr (Or.inl ⟨rfl, rfl, rfl, by assumption⟩))
theorem aex_thr {i : Instr} {e : Nat} (hs : aex E d pc ls st h i = some (.inr (.inr (.inr e)))) : ∃ n, i = .new n ∧ athr E d pc n st = some (.inr (.inr (.inr e))) := by
  cases hx : isX i with
  | false => exact (aex_inr hx hs).elim
  | true =>
    cases i <;> first | (cases hx; done) | skip
    all_goals
      dsimp only [aex] at hs
      repeat' split at hs
      all_goals first | (cases hs; done) | (simp only [nx, Option.some.injEq] at hs; cases hs; done) | exact (acall_not2 hs).elim | exact ⟨_, rfl, hs⟩
end P8
