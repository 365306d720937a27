/-! THE CLAIM OUT OF ONE WALK OF THE LAW'S BODY. Your part is whole_start (and what it stands on); all else here is the same for every law, but numbers. -/
def R_law : String := "TemperingLineLaw"
def lw_P (b : Addr) (xs : List Int32) (args : Array Value) (s : State) : Prop := args = #[.ref b] ∧ s.IntsAt b xs ∧ xs.length ≤ 3072 ∧ (Jvm.Cond.and given_1 narrow_1).before args s = true
def lw_Q (_ : Array Value) (s : State) (o : Outcome) (t : State) : Prop := o = .returned (some (.int 1)) ∧ Framed s o t [] 601024 7293034
def lw_Z (below : List Frame) (a : Array Value) (s : State) : State → Prop := fun t => ∃ o, t.status = .running ∧ Ended t below o ∧ lw_Q a s o t
/-- the law's own end, with 1 on the stack, nothing written that was there before, its room as the claim has it -/
theorem lw_ret {p : Program} {l : Launch} {e : Env} {s : State} {m : MethodId} {below : List Frame} {meth : Method} {c : Code} {b : Nat} (hx : p.tables.exec = Jvm.exec) (hb : c.code = code) (hr : meth.sig.returnType = ret) (hlocks : meth.locks = false) {pc : Nat} {H : Heap} {ls : Array Slot} (hdg : decode code pc = .ok (.ireturn, 1)) : W p l e room_1 s m #[Value.ref b] below meth c H [] 601024 7293034 (lw_Z below #[Value.ref b] s) (F0 m pc ls [.int 1]) := by
  intro T hT X
  obtain ⟨fs, hret, hrun, hended, hW, hframe⟩ := X.leave (v := some (.int 1)) (hlocks := hlocks) (fun h => by rw [hr] at h; cases h)
  have hmeth' : T.vm.method? m = some meth := X.method'
  refine ⟨T.setFrames fs, ?_, .returned (some (.int 1)), hrun, hended, rfl, ⟨_, rfl⟩, hW, hframe⟩
  jvm_step X.here [X.here.top, hx, hb, hdg, hmeth', hr, ret, narrow_b1]
  (try refine ⟨rfl, ?_⟩); (try refine ⟨rfl, ?_⟩)
  first | (intro acts; rw [hret _ acts rfl rfl rfl]) | rw [hret _ _ rfl rfl rfl]
  exact Steps.refl _
/-- what holds at the law's entry: the machine, the code, the tables' words (any of lw_tbl by 'hts w (by decide +kernel)'), the script of L ints xs at the cell b, what the Statement gives of the start (any of its parts by flat_of_before) -/
def lw_At (p : Program) (s : State) (m : MethodId) (meth : Method) (c : Code) (b L : Nat) (xs : Nat → Int32) : Prop :=
  p.tables.exec = Jvm.exec ∧ c.code = code ∧ meth.sig.returnType = ret ∧ c.maxLocals = 7 ∧ s.vm.findClass R_law = some m.cls ∧ (∀ w ∈ lw_tbl, w.before #[Value.ref b] s = true) ∧ va_X b L xs s s.heap ∧ b < s.heap.size ∧ meth.locks = false ∧ c.exceptionTable.toList = [] ∧ (Jvm.Cond.and given_1 narrow_1).before #[Value.ref b] s = true
/-! THE TOP: the claim out of a run of the interpreter over the law -/
def lawI : Nat := 182
def tmS : Nat → String × Nat
  | 0 => (cR 4, 56)
  | 1 => (cR 4, 86)
  | 2 => (cR 4, 92)
  | 3 => (cR 4, 97)
  | 4 => (cR 4, 153)
  | 5 => (cR 4, 155)
  | 6 => (cR 5, 218)
  | 7 => (cR 5, 222)
  | 8 => (cR 5, 115)
  | 9 => (cR 5, 157)
  | 10 => (cR 5, 216)
  | 11 => (cR 5, 191)
  | 12 => (cR 5, 198)
  | 13 => (cR 5, 203)
  | _ => ("", 0)
abbrev flatN : List Cond := flatC (Jvm.Cond.and given_1 narrow_1)
def h00 (x : Nat × (Nat → Int32)) : AH := (0, 0, fun _ => (0, 0), fun _ _ => .null, fun _ _ => 0, fun _ _ => 0, fun _ _ => none, x)
theorem eq_terms {args : Array Value} {s : State} {t u : Term} {a : Nat} (h : (Cond.eq t u).before args s = true) (ht : t.eval args s none [] s = some (.ref a)) : u.eval args s none [] s = some (.ref a) := by
  cases hu : u.eval args s none [] s with
  | none => simp [Cond.before, Cond.holds, Cond.value, ht, hu] at h
  | some w =>
    cases w with
    | ref x => simp [Cond.before, Cond.holds, Cond.value, ht, hu] at h; rw [h]
    | _ => simp [Cond.before, Cond.holds, Cond.value, ht, hu] at h
theorem isRef_eval {args : Array Value} {s : State} {t : Term} (h : (Cond.isRef t).before args s = true) : ∃ r : Option Nat, t.eval args s none [] s = some (va_rf r) := by
  cases hu : t.eval args s none [] s with
  | none => simp [Cond.before, Cond.holds, Cond.value, hu] at h
  | some w =>
    cases w with
    | null => exact ⟨none, rfl⟩
    | ref a => exact ⟨some a, rfl⟩
    | _ => simp [Cond.before, Cond.holds, Cond.value, hu] at h
theorem W_mono {p : Program} {l : Launch} {e : Env} {R : Room} {s : State} {m : MethodId} {args : Array Value} {below : List Frame} {meth : Method} {c : Code} {H : Heap} {locs : List Loc} {cells slots : Nat} {Q Q2 : State → Prop} {g : JFrame} (k : W p l e R s m args below meth c H locs cells slots Q g) (hq : ∀ t, Q t → Q2 t) : W p l e R s m args below meth c H locs cells slots Q2 g := by
  intro T hT X
  obtain ⟨t, a, b⟩ := k T hT X
  exact ⟨t, a, hq t b⟩
theorem lit_ex : ∀ i, i < 14 → Cond.exactly (Term.string (tmS i).1 (tmS i).2) "java/lang/String" ∈ flatN := by decide +kernel
theorem lit_co : ∀ i, i < 6 → Cond.eq (.field (Term.string (tmS i).1 (tmS i).2) "java/lang/String" "coder" "B") (.int 0) ∈ flatN := by decide +kernel
theorem lit_ar : ∀ i, i < 6 → Cond.arrayOf (.field (Term.string (tmS i).1 (tmS i).2) "java/lang/String" "value" "[B") .byte ∈ flatN := by decide +kernel
theorem lit_le : ∀ i, i < 6 → Cond.eq (.length (.field (Term.string (tmS i).1 (tmS i).2) "java/lang/String" "value" "[B")) (.int (Int32.ofNat (lenJ.getD i 0))) ∈ flatN := by decide +kernel
theorem lit_el : ∀ i, i < 6 → ∀ j, j < lenJ.getD i 0 → Cond.eq (.elem (.field (Term.string (tmS i).1 (tmS i).2) "java/lang/String" "value" "[B") (.int (Int32.ofNat j))) (.int ((bytJ.getD i []).getD j 0)) ∈ flatN := by decide +kernel
theorem lit_ne : ∀ i, i < 6 → ∀ j, j < 6 → i ≠ j → Cond.not (Cond.eq (Term.string (tmS i).1 (tmS i).2) (Term.string (tmS j).1 (tmS j).2)) ∈ flatN ∨ Cond.not (Cond.eq (Term.string (tmS j).1 (tmS j).2) (Term.string (tmS i).1 (tmS i).2)) ∈ flatN := by decide +kernel
theorem lit_st : ∀ q ∈ strT, q.2.2 < 14 ∧ Cond.stringRef (cR q.1.1) q.1.2 q.2.1 ∈ lw_tbl ∧ ((cR q.1.1, q.1.2) = tmS q.2.2 ∨ Cond.eq (Term.string (tmS q.2.2).1 (tmS q.2.2).2) (Term.string (cR q.1.1) q.1.2) ∈ flatN) := by decide +kernel
theorem exc_nc : ∀ i, i < 3 → ∀ j, j < 3 → i ≠ j → Cond.not (.castable (exN i) (exN j)) ∈ flatN := by decide +kernel
theorem no_tr {l : Launch} (h : l.flags = flags0) : l.stackTraces = false := by
  unfold Launch.stackTraces
  rw [h]
  decide +kernel
theorem wf_start {s : State} {b L : Nat} {xs : Nat → Int32} (hts : ∀ w ∈ lw_tbl, w.before #[Value.ref b] s = true) (hX : va_X b L xs s s.heap) (hbl : b < s.heap.size) (hgv : (Jvm.Cond.and given_1 narrow_1).before #[Value.ref b] s = true) :
    ∃ o : OM, oB o = s.heap.size ∧ oS o = b ∧ oX o = (L, xs) ∧ WF o s s.heap := by
  have hs : ∀ w ∈ flatN, w.before #[Value.ref b] s = true := flat_of_before _ hgv
  have hA : ∀ a : Nat, a < s.heap.size → ¬ (fun q => s.heap.size ≤ q) a := fun a h => Nat.not_le.mpr h
  have htg : ∀ w ∈ lwG, w.before #[Value.ref b] s = true := fun w hw => hts w (List.mem_filter.mp hw).1
  have hD0 : ∀ cj : Nat, ∃ q : ClassId × (Nat → Nat), cj < 7 → u_Kn s (cR cj) (cT cj) (cNf cj) q.1 q.2 := by
    intro cj
    by_cases h : cj < 7
    · obtain ⟨cC, iS, hk⟩ := u_known (T := cT cj) (N := cNf cj) htg (clsF cj h).2.1 (htg _ (clsN cj h))
      exact ⟨(cC, iS), fun _ => hk⟩
    · exact ⟨(0, fun _ => 0), fun q => absurd q h⟩
  obtain ⟨f, hf⟩ := Classical.axiomOfChoice hD0
  have hI : ∀ ty : FieldType, Cond.arrayClass ty ∈ lw_tbl → (∀ C, ty ≠ .object C) → ty.isReference = false → ∃ c, ArrOfT s c ty ∧ va_RA s c ty := by
    intro ty hm hno _
    obtain ⟨c, k, comp, h1, h2, h3⟩ := Cond.arrayClass_spec (hts _ hm)
    refine ⟨c, fun n z => ⟨fun k h => (by cases h), k, h2, comp, h3⟩, ?_⟩
    cases ty <;> first | exact h1 | exact absurd rfl (hno _)
  obtain ⟨cI, wI⟩ := hI .int (by decide +kernel) (fun _ h => by cases h) rfl
  obtain ⟨cBy, wB⟩ := hI .byte (by decide +kernel) (fun _ h => by cases h) rfl
  obtain ⟨cJ, wJ9⟩ := hI .long (by decide +kernel) (fun _ h => by cases h) rfl
  have hao : va_AO (cR 2) s := va_AO.of (hts _ (by decide +kernel))
  have hao2 : aoA .int s := hts (.arrayOver (.array .int)) (by decide +kernel)
  obtain ⟨c13, w13⟩ : ∃ c, ArrOfT s c (.object (cR 2)) ∧ va_RA s c (.object (cR 2)) := by
    obtain ⟨comp, c, k, h1, h2, h3, h4, h5⟩ := Cond.arrayOver_spec hao
    exact ⟨c, fun n z => ⟨fun k h => (by cases h), k, h3, comp, h4⟩, k, comp, h3, h4, h1, h5⟩
  obtain ⟨c14, w14⟩ : ∃ c, ArrOfT s c (.array .int) ∧ va_RA s c (.array .int) := by
    obtain ⟨comp, c, k, h1, h2, h3, h4, h5⟩ := aoA_spec hao2
    exact ⟨c, fun n z => ⟨fun k h => (by cases h), k, h3, comp, h4⟩, h5⟩
  obtain ⟨adK, adV, hvk, hev⟩ := vk_Sof (N := 6) (tm := fun i => Term.string (tmS i).1 (tmS i).2) (len := lenJ) (byt := bytJ) (A := fun q => s.heap.size ≤ q) (by decide +kernel) (fun i hi => hs _ (lit_ex i (by omega))) (fun i hi => hs _ (lit_co i hi)) (fun i hi => hs _ (lit_ar i hi)) (fun i hi => hs _ (lit_le i hi)) (fun i hi j hj => hs _ (lit_el i hi j hj))
    (fun i j hi hj hij => (lit_ne i hi j hj hij).imp (fun h => hs _ h) (fun h => hs _ h)) hA
  have hM : ∀ i : Nat, ∃ a : Nat, i < 14 → (Term.string (tmS i).1 (tmS i).2).eval #[Value.ref b] s none [] s = some (.ref a) := by
    intro i
    by_cases h : i < 14
    · obtain ⟨a, c, cell, k, h1, -⟩ := Cond.exactly_spec (hs _ (lit_ex i h))
      exact ⟨a, fun _ => h1⟩
    · exact ⟨0, fun q => absurd q h⟩
  obtain ⟨g, hg⟩ := Classical.axiomOfChoice hM
  have hgK : ∀ i : Nat, i < 6 → adK i = g i := fun i hi => by
    have h1 := (hev i hi).symm.trans (hg i (by omega))
    exact Value.ref.inj (Option.some.inj h1)
  obtain ⟨r, hr⟩ := isRef_eval (hs (.isRef (.static "jdk/internal/util/Preconditions" "SIOOBE_FORMATTER" "Ljava/util/function/BiFunction;")) (by decide +kernel))
  refine ⟨((fun c => (f c).1, fun c => (f c).2), fun k => if k = 10 then cI else if k = 11 then cBy else if k = 12 then cJ else if k = 13 then c13 else c14, s.heap.size, b, g, adV, (L, xs), r), rfl, rfl, rfl, ?_⟩
  refine ⟨⟨fun c q hq => ?_, fun k q h => by simp at h⟩, wI, wB, wJ9, w13, w14, hX, hbl, fun q hq => ?_, ⟨fun i hi => ?_, fun i j hi hj e => ?_⟩, ?_, ?_, ?_, ?_, fun w hw => ?_, fun i j hi hj hij => va_Nc.of (hs _ (exc_nc i hi j hj hij)), hao, hao2⟩
  · by_cases h : c < 7
    · rw [(clsF c h).1] at hq
      cases hq
      exact hf c h
    · have : vwCl[c]? = none := by
        rw [List.getElem?_eq_none_iff]
        show 7 ≤ c
        omega
      rw [this] at hq
      cases hq
  · obtain ⟨a1, a2, a3⟩ := lit_st q hq
    refine vk_R.of (hts _ a2) ?_
    have h1 := hg q.2.2 a1
    rcases a3 with a3 | a3
    · rw [← a3] at h1
      exact h1
    · exact eq_terms (hs _ a3) h1
  · show va_O _ (g i) _ s s.heap ∧ _
    have := hvk.1 i hi
    rw [hgK i hi] at this
    exact this
  · refine hvk.2 i j hi hj ?_
    rw [hgK i hi, hgK j hj]
    exact e
  · exact va_Zof (hts _ (by decide +kernel)) (hts _ (by decide +kernel)) (va_eqi (hs _ (by decide +kernel))) hA
  · exact va_Zof (hts _ (by decide +kernel)) (hts _ (by decide +kernel)) hr hA
  · exact vx_Zqof (hts _ (by decide +kernel)) (hts _ (by decide +kernel)) (hs _ (by decide +kernel)) hA
  · exact vx_Zqof (hts _ (by decide +kernel)) (hts _ (by decide +kernel)) (hs _ (by decide +kernel)) hA
  · obtain ⟨h1, h2⟩ := List.mem_filter.mp hw
    exact va_Nw.of (ngK_tab h2) (hts w h1)
theorem law_entry : mtab[lawI]? = some (yL_law, cL_law, 7, some .boolean, 7, []) := rfl
theorem room_a : 60 ≤ room_1.frames := Nat.le_of_ble_eq_true rfl
theorem room_b : 60 * 60 + 60 ≤ room_1.locals := Nat.le_of_ble_eq_true rfl
theorem room_c : room_1.cells = 601024 := rfl
theorem room_d : room_1.slots = 7293034 := rfl
theorem law_ni : yL_law.name ≠ "<init>" := by decide
theorem am_F {p : Program} {e : Env} {s : State} {m : MethodId} {below : List Frame} {meth : Method} {c : Code} (l : Launch) (hflags : l.flags = flags0) {b L : Nat} {xs : Nat → Int32} {o : OM} (e1 : oB o = s.heap.size) (hW : WF o s s.heap) {nE sE : Nat} (b1 : nE ≤ 601024) (b2 : sE ≤ 7293034) (C0 : lw_At p s m meth c b L xs) : FR o (l, p, e, room_1, s, m, #[Value.ref b], below, meth, c) (yL_law, cL_law, 7, some .boolean, 7, []) 60 0 0 nE sE := by
  obtain ⟨hx, hb, hr, hml, hown, hts, hX, hbl, hlocks, htab, hgv⟩ := C0
  refine ⟨hx, hb, hml, hr, hown, htab, fun hn => absurd hn law_ni, hlocks, no_tr hflags, fun w hw => hts w (List.mem_filter.mp hw).1, hW, Nat.le_of_eq e1, room_a, room_b, ?_, ?_⟩
  · rw [Nat.zero_add]
    exact Nat.le_trans b1 (Nat.le_of_eq room_c.symm)
  · rw [Nat.zero_add]
    exact Nat.le_trans b2 (Nat.le_of_eq room_d.symm)
theorem am_LV {o : OM} {b : Nat} {m : MethodId} (e2 : oS o = b) : LV o (entryFrame m ([Value.ref b] : List Value).toArray 7).locals (aent [scrV] 7) := by
  have et : ([scrV].map (trv o)) = [Value.ref b] := by
    show [tflo o 0] = _
    unfold tflo
    rw [if_pos rfl, e2]
  have hLV := LV.entry o [scrV] 7 (by decide)
  rw [et] at hLV
  exact hLV
set_option maxRecDepth 100000 in
theorem am_top {p : Program} {e : Env} {s : State} {m : MethodId} {below : List Frame} {meth : Method} {c : Code} (l : Launch) (hflags : l.flags = flags0) {b L : Nat} {xs : Nat → Int32}
    (HAM : ∃ n h', arun n 60 lawI 0 (aent [scrV] 7) [] (h00 (L, xs)) = some (.inl (some (.int 1)), h') ∧ hN h' ≤ 601024 ∧ hS h' ≤ 7293034) (C0 : lw_At p s m meth c b L xs) : W p l e room_1 s m #[Value.ref b] below meth c s.heap [] 0 0 (lw_Z below #[Value.ref b] s) (entryFrame m ([Value.ref b] : List Value).toArray 7) := by
  obtain ⟨hx, hb, hr, hml, hown, hts, hX, hbl, hlocks, htab, hgv⟩ := id C0
  obtain ⟨n, h', hrun, b1, b2⟩ := HAM
  obtain ⟨o, e1, e2, e3, hW⟩ := wf_start hts hX hbl hgv
  have F := am_F (e := e) (below := below) l hflags e1 hW b1 b2 C0
  have K := arun_snd o n 60 lawI 0 _ _ _ _ _ hrun _ law_entry _ 0 0 F
  have k1 := K _ s.heap [] (am_LV (m := m) e2) rfl ⟨by rw [e1]; rfl, fun _ _ => rfl, fun i hi => absurd hi (Nat.not_lt_zero i), e3.symm⟩ (by rw [e1]; exact va_S.rf) (Nat.le_refl _) (Nat.le_refl _)
  rw [lg_entry_eq]
  refine W_mono k1 fun t ht => ?_
  obtain ⟨oc, t1, t2, t3⟩ := ht
  rcases t3 with ⟨⟨⟨v, hv1, hv2⟩, -, -⟩, Lc, hfe, hLc⟩ | ⟨q, -, En, ce, Lc, ⟨⟨e9, he9, -⟩, -⟩, -⟩
  · cases hv1
    subst hv2
    obtain ⟨g1, g2, g3⟩ := hfe
    refine ⟨_, t1, t2, rfl, ⟨_, rfl⟩, g2, g3.weaken (fun y hy hlt => ?_) b1 b2⟩
    have h9 : oB o ≤ y.base := hLc y hy
    rw [e1] at h9
    exact absurd hlt (Nat.not_lt.mpr h9)
  · cases he9

