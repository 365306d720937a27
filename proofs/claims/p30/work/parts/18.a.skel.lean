/-! THE CLAIM OUT OF ONE WALK OF THE LAW'S BODY. Your part is whole_start (and what it stands on); all else here is the same for every law, but numbers. -/
def R_law : String := "TemperingLineLaw"
def lw_P (b : Addr) (xs : List Int32) (args : Array Value) (s : State) : Prop := args = #[.ref b] ∧ s.IntsAt b xs ∧ xs.length ≤ 260 ∧ (Jvm.Cond.and given_1 narrow_1).before args s = true
def lw_Q (_ : Array Value) (s : State) (o : Outcome) (t : State) : Prop := o = .returned (some (.int 1)) ∧ Framed s o t [] 690366 7030600
def lw_Z (below : List Frame) (a : Array Value) (s : State) : State → Prop := fun t => ∃ o, t.status = .running ∧ Ended t below o ∧ lw_Q a s o t
/-- the law's own end, with 1 on the stack, nothing written that was there before, its room as the claim has it -/
theorem lw_ret {p : Program} {l : Launch} {e : Env} {s : State} {m : MethodId} {below : List Frame} {meth : Method} {c : Code} {b : Nat} (hx : p.tables.exec = Jvm.exec) (hb : c.code = code) (hr : meth.sig.returnType = ret) (hlocks : meth.locks = false) {pc : Nat} {H : Heap} {ls : Array Slot} (hdg : decode code pc = .ok (.ireturn, 1)) : W p l e room_1 s m #[Value.ref b] below meth c H [] 690366 7030600 (lw_Z below #[Value.ref b] s) (F0 m pc ls [.int 1]) := by
  intro T hT X
  obtain ⟨fs, hret, hrun, hended, hW, hframe⟩ := X.leave (v := some (.int 1)) (hlocks := hlocks) (fun h => by rw [hr] at h; cases h)
  have hmeth' : T.vm.method? m = some meth := X.method'
  refine ⟨T.setFrames fs, ?_, .returned (some (.int 1)), hrun, hended, rfl, ⟨_, rfl⟩, hW, hframe⟩
  jvm_step X.here [X.here.top, hx, hb, hdg, hmeth', hr, ret, narrow_b1]
  (try refine ⟨rfl, ?_⟩); (try refine ⟨rfl, ?_⟩)
  first | (intro acts; rw [hret _ acts rfl rfl rfl]) | rw [hret _ _ rfl rfl rfl]
  exact Steps.refl _
/-- what holds at the law's entry: the machine, the code, the tables' words (any of lw_tbl by 'hts w (by decide +kernel)'), the script of L ints xs at the cell b, what the Statement gives of the start (any of its parts by flat_of_before) -/
def lw_At (p : Program) (s : State) (m : MethodId) (meth : Method) (c : Code) (b L : Nat) (xs : Nat → Int32) : Prop :=
  p.tables.exec = Jvm.exec ∧ c.code = code ∧ meth.sig.returnType = ret ∧ c.maxLocals = 25 ∧ s.vm.findClass R_law = some m.cls ∧ (∀ w ∈ lw_tbl, w.before #[Value.ref b] s = true) ∧ va_X b L xs s s.heap ∧ b < s.heap.size ∧ meth.locks = false ∧ c.exceptionTable.toList = [] ∧ (Jvm.Cond.and given_1 narrow_1).before #[Value.ref b] s = true
/-! THE TOP: what the Statement gives of the start -/
def lawI : Nat := 142
def tmS : Nat → String × Nat
  | 0 => (cR 4, 56)
  | 1 => (cR 4, 86)
  | 2 => (cR 4, 92)
  | 3 => (cR 4, 97)
  | 4 => (cR 4, 153)
  | 5 => (cR 4, 155)
  | 6 => (cR 12, 104)
  | 7 => (cR 12, 109)
  | 8 => (cR 12, 151)
  | 9 => (cR 12, 168)
  | 10 => (cR 7, 37)
  | 11 => (cR 7, 60)
  | 12 => (cR 7, 62)
  | 13 => (cR 7, 64)
  | 14 => (cR 7, 66)
  | 15 => (cR 7, 68)
  | 16 => (cR 7, 70)
  | 17 => (cR 5, 218)
  | 18 => (cR 5, 222)
  | 19 => (cR 5, 115)
  | 20 => (cR 5, 157)
  | 21 => (cR 5, 216)
  | 22 => (cR 5, 191)
  | 23 => (cR 5, 198)
  | 24 => (cR 5, 203)
  | _ => ("", 0)
abbrev flatN : List Cond := flatC (Jvm.Cond.and given_1 narrow_1)
theorem eq_terms {args : Array Value} {s : State} {t u : Term} {a : Nat} (h : (Cond.eq t u).before args s = true) (ht : t.eval args s none [] s = some (.ref a)) : u.eval args s none [] s = some (.ref a) := by
  cases hu : u.eval args s none [] s with
  | none => simp [Cond.before, Cond.holds, Cond.value, ht, hu] at h
  | some w =>
    cases w with
    | ref x => simp [Cond.before, Cond.holds, Cond.value, ht, hu] at h; rw [h]
    | _ => simp [Cond.before, Cond.holds, Cond.value, ht, hu] at h
theorem isRef_eval {args : Array Value} {s : State} {t : Term} (h : (Cond.isRef t).before args s = true) : ∃ r : Option Nat, t.eval args s none [] s = some (va_rf r) := by
  cases hu : t.eval args s none [] s with
  | none => simp [Cond.before, Cond.holds, Cond.value, hu] at h
  | some w =>
    cases w with
    | null => exact ⟨none, rfl⟩
    | ref a => exact ⟨some a, rfl⟩
    | _ => simp [Cond.before, Cond.holds, Cond.value, hu] at h
theorem eq_refs {args : Array Value} {s : State} {t u : Term} {a : Nat} (h : (Cond.eq t u).before args s = true) (hu : u.eval args s none [] s = some (.ref a)) : t.eval args s none [] s = some (.ref a) := by
  cases ht : t.eval args s none [] s with
  | none => simp [Cond.before, Cond.holds, Cond.value, ht, hu] at h
  | some w =>
    cases w with
    | ref x => simp [Cond.before, Cond.holds, Cond.value, ht, hu] at h; rw [h]
    | _ => simp [Cond.before, Cond.holds, Cond.value, ht, hu] at h
theorem W_mono {p : Program} {l : Launch} {e : Env} {R : Room} {s : State} {m : MethodId} {args : Array Value} {below : List Frame} {meth : Method} {c : Code} {H : Heap} {locs : List Loc} {cells slots : Nat} {Q Q2 : State → Prop} {g : JFrame} (k : W p l e R s m args below meth c H locs cells slots Q g) (hq : ∀ t, Q t → Q2 t) : W p l e R s m args below meth c H locs cells slots Q2 g := by
  intro T hT X
  obtain ⟨t, a, b⟩ := k T hT X
  exact ⟨t, a, hq t b⟩
theorem lit_ex : ∀ i, i < 25 → Cond.exactly (Term.string (tmS i).1 (tmS i).2) "java/lang/String" ∈ flatN := by decide +kernel
theorem lit_co : ∀ i, i < 17 → Cond.eq (.field (Term.string (tmS i).1 (tmS i).2) "java/lang/String" "coder" "B") (.int 0) ∈ flatN := by decide +kernel
theorem lit_ar : ∀ i, i < 17 → Cond.arrayOf (.field (Term.string (tmS i).1 (tmS i).2) "java/lang/String" "value" "[B") .byte ∈ flatN := by decide +kernel
theorem lit_le : ∀ i, i < 17 → Cond.eq (.length (.field (Term.string (tmS i).1 (tmS i).2) "java/lang/String" "value" "[B")) (.int (Int32.ofNat (lenJ.getD i 0))) ∈ flatN := by decide +kernel
def offJ : List Nat := [345, 353, 361, 369, 377, 390, 609, 614, 619, 637, 0, 657, 662, 669, 675, 680, 685]
theorem lit_elx : ∀ i, i < 17 → ∀ j, j < lenJ.getD i 0 → flatN[offJ.getD i 0 + j]? = some (Cond.eq (.elem (.field (Term.string (tmS i).1 (tmS i).2) "java/lang/String" "value" "[B") (.int (Int32.ofNat j))) (.int ((bytJ.getD i []).getD j 0))) := by decide +kernel
theorem lit_el : ∀ i, i < 17 → ∀ j, j < lenJ.getD i 0 → Cond.eq (.elem (.field (Term.string (tmS i).1 (tmS i).2) "java/lang/String" "value" "[B") (.int (Int32.ofNat j))) (.int ((bytJ.getD i []).getD j 0)) ∈ flatN := fun i hi j hj => List.mem_of_getElem? (lit_elx i hi j hj)
theorem lit_st : ∀ q ∈ strT, q.2.2 < 25 ∧ Cond.stringRef (cR q.1.1) q.1.2 q.2.1 ∈ lw_tbl ∧ ((cR q.1.1, q.1.2) = tmS q.2.2 ∨ Cond.eq (Term.string (tmS q.2.2).1 (tmS q.2.2).2) (Term.string (cR q.1.1) q.1.2) ∈ flatN) := by decide +kernel
theorem exc_nc : ∀ i, i < 3 → ∀ j, j < 3 → i ≠ j → Cond.not (.castable (exN i) (exN j)) ∈ flatN := by decide +kernel
abbrev tVAR : Term := .static "TemperingLineLaw" "VARIABLES" "[Ljava/lang/String;"
abbrev tONE : Term := .static "java/lang/Integer" "DigitOnes" "[B"
abbrev tTEN : Term := .static "java/lang/Integer" "DigitTens" "[B"
theorem var_ar : Cond.arrayOf tVAR (.object "java/lang/String") ∈ flatN := by decide +kernel
theorem var_le : Cond.eq (.length tVAR) (.int (Int32.ofNat 3)) ∈ flatN := by decide +kernel
theorem var_el : ∀ j, j < 3 → Cond.eq (.elem tVAR (.int (Int32.ofNat j))) (.string "TemperingLineLaw" (290 + j)) ∈ flatN := by decide +kernel
theorem var_st : ∀ j, j < 3 → Cond.eq (Term.string (tmS (vrN j)).1 (tmS (vrN j)).2) (.string "TemperingLineLaw" (290 + j)) ∈ flatN ∧ vrN j < 17 := by decide +kernel
theorem one_ar : Cond.arrayOf tONE .byte ∈ flatN ∧ Cond.arrayOf tTEN .byte ∈ flatN := by decide +kernel
theorem one_le : Cond.eq (.length tONE) (.int (Int32.ofNat 100)) ∈ flatN ∧ Cond.eq (.length tTEN) (.int (Int32.ofNat 100)) ∈ flatN := by decide +kernel
theorem one_elx : ∀ j, j < 100 → flatN[14 + j]? = some (Cond.eq (.elem tONE (.int (Int32.ofNat j))) (.int (nI (48 + j % 10)))) := by decide +kernel
theorem ten_elx : ∀ j, j < 100 → flatN[117 + j]? = some (Cond.eq (.elem tTEN (.int (Int32.ofNat j))) (.int (nI (48 + j / 10)))) := by decide +kernel
theorem one_el : ∀ j, j < 100 → Cond.eq (.elem tONE (.int (Int32.ofNat j))) (.int (nI (48 + j % 10))) ∈ flatN ∧ Cond.eq (.elem tTEN (.int (Int32.ofNat j))) (.int (nI (48 + j / 10))) ∈ flatN := fun j hj => ⟨List.mem_of_getElem? (one_elx j hj), List.mem_of_getElem? (ten_elx j hj)⟩
