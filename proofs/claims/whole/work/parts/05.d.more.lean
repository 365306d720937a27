/-! SOUNDNESS, part 4: copies, grids, ends of methods, throws (am_throwS began as vx_throwS of kit/laws/EXCEPTIONS), calls -/
section P4x
variable {p : Program} {l : Launch} {e : Env} {R : Room} {s : State} {m : MethodId} {args : Array Value} {below : List Frame} {meth : Method} {c : Code} {H : Heap} {locs : List Loc} {cells slots : Nat} {Q : State → Prop}
variable {mc ms : Nat} {free : Addr → Prop} {A0 A1 : Nat → Prop} {H0 : Heap} {a : Array Value} {ls : Array Slot} {st0 rest : List Value}
variable {Qc : Array Value → State → Outcome → State → Prop} {XC : String → State → State → Prop}
theorem am_throwS {cc : ByteArray} {pc : Nat} (hexec : p.tables.exec = Jvm.exec) (hb : c.code = cc) (hl : l.stackTraces = false) {own cls text : String} {names : List String} {ik is ic mc ms sa : Nat} {A : Nat → Prop}
    (hown : s.vm.findClass own = some m.cls) (hcls : Bundle.fit cls = true) (hnames : ∀ n ∈ names, Bundle.fit n = true)
    (hk : (Cond.classLink own ik cls).before args s = true) (hini : (Cond.initialized cls).before args s = true) (hstr : vk_R own is text sa s) (hat : ∀ w ∈ vx_atS own ic cls names, w.before args s = true)
    (hgood : ∀ w ∈ Cond.classLink own ik cls :: Cond.initialized cls :: vx_atS own ic cls names, vx_ot w = true)
    (hU : vx_Zq Bundle.tN "UNASSIGNED_STACK" Bundle.steD A s s.heap) (hN : vx_Zq Bundle.tN "SUPPRESSED_SENTINEL" Bundle.listD A s s.heap) (hS : va_S A s.heap H locs) (hsize : ls.size = c.maxLocals)
    (d0 : decode cc pc = .ok (.new ik, 3)) (d3 : decode cc (pc + 3) = .ok (.dup, 1)) (d4 : decode cc (pc + 4) = .ok (.ldc is, 2)) (d6 : decode cc (pc + 6) = .ok (.invokespecial ic, 3)) (d9 : decode cc (pc + 9) = .ok (.athrow, 1))
    (hout : ∀ x ∈ c.exceptionTable.toList, covers x (pc + 9) = false)
    (hRframes : names.length + 3 < R.frames) (hRlocals : (rest.map fun v => v.category).sum + (13 * (names.length + 1) + 43) ≤ R.locals) (hRcells : cells + 1 ≤ R.cells) (hRslots : slots + 6 ≤ R.slots) (hlocks : meth.locks = false)
    (hx : ∀ t : State, s.vm.Alike t.vm → t.heap.size = H.size + 1 → (∀ q : Nat, q < H.size → t.heap[q]? = H[q]?) → XC cls s t)
    (hf : ∀ z ∈ locs, free z.base) (hc : cells + 1 ≤ mc) (hs : slots + 6 ≤ ms) :
    W p l e R s m args below meth c H locs cells slots (vx_MQ below Qc XC args s mc ms free) (F0 m pc ls rest) := by
  intro T hT X
  have htr : e.platform.stackTraces = false := (show e.platform.stackTraces = l.stackTraces by rw [X.admits.platform]).trans hl
  have Y := vx_rebase X (R' := { frames := R.frames, locals := R.locals, cells := 1, slots := 6 }) (Nat.le_refl _) (Nat.le_refl _) hRcells hRslots
  obtain ⟨s', hA⟩ : ∃ z, z = (T.setVm s.vm).setFrames (.invoking m args :: below) := ⟨_, rfl⟩
  rw [← hA] at Y
  have hvm : s'.vm = s.vm := by rw [hA]; rfl
  have hhp : s'.heap = H := by rw [hA]; exact hT
  have hW0 : s.WarmedH s'.vm := by rw [hvm]; exact State.WarmedH.refl s
  have hat' : ∀ w ∈ vx_atS own ic cls names, w.before args s' = true := fun w hw => vx_ot_at hW0 hvm.symm (hgood w (List.mem_cons_of_mem _ (List.mem_cons_of_mem _ hw))) (hat w hw)
  have hk' : (Cond.classLink own ik cls).before args s' = true := vx_ot_at hW0 hvm.symm (hgood _ List.mem_cons_self) hk
  have hini' : (Cond.initialized cls).before args s' = true := vx_ot_at hW0 hvm.symm (hgood _ (List.mem_cons_of_mem _ List.mem_cons_self)) hini
  have hU' : vx_Zq Bundle.tN "UNASSIGNED_STACK" Bundle.steD A s' s'.heap := by rw [hhp]; exact vx_Zq.moved hW0.alike (hU.kept hS.2.1)
  have hN' : vx_Zq Bundle.tN "SUPPRESSED_SENTINEL" Bundle.listD A s' s'.heap := by rw [hhp]; exact vx_Zq.moved hW0.alike (hN.kept hS.2.1)
  have h : ∀ w ∈ Bundle.ownAtoms own ic cls names, w.before args s' = true := vx_own hat' (vx_isRefq hU'.1) (vx_isRefq hN'.1) hU'.2.word hN'.2.word
  have hown' : s'.vm.findClass own = some m.cls := by rw [hvm]; exact hown
  have hins : (Cond.instantiable cls 6).before args s' = true := h _ (by simp [Bundle.ownAtoms])
  obtain ⟨vm₁, cX, kX, hfX, hkX, -, -, X₁, st1⟩ := Y.newCold hexec (own := own) (C := cls) (index := ik) (n := 6) hown' hk' hins hini'
    (g := F0 m pc ls rest) rfl (by rw [hb]; exact d0) (Nat.le_refl _) (Nat.le_refl _)
  generalize hT1 : (T.setVm vm₁).pushCell { cls := cX, slots := kX.instanceTypes.map defaultValue, vm := .none } = T1 at X₁ st1
  have hcat : (Value.ref T.heap.size).category = 1 := rfl
  have hcellA : T1.heap[T.heap.size]? = some (freshCell cX kX) := by rw [← hT1]; exact State.heap_pushCell_size _ _
  have d3' : decode c.code (pc + 3) = .ok (.dup, 1) := by rw [hb]; exact d3
  have d4' : decode c.code (pc + 4) = .ok (.ldc is, 2) := by rw [hb]; exact d4
  have hstr' : vk_R own is text sa s' := vk_R.warm hW0 hstr
  obtain ⟨U, hsteps, hrun, hend, hW, hsame, ce, hce, hO⟩ := X₁.ctorThrowS hexec htr (own := own) (cls := cls) (names := names) (ic := ic) hown' hcls hnames h (fun x hx => nomatch hx) hfX hkX hcellA (by rw [hhp, hT]; exact Nat.le_refl _) (msg := .ref sa) rfl
    (g := { method := m, pc := pc + 6, locals := ls, stack := .ref sa :: .ref T.heap.size :: .ref T.heap.size :: rest, locked := none }) rfl hsize rfl rfl (rest := rest) rfl
    (by rw [hb]; exact d6) (by rw [hb]; exact d9) hout hRframes (by simp only [List.map_cons, List.sum_cons, hcat]; omega) hlocks
  obtain ⟨f1, f2⟩ := vx_frame hsame
  rw [hhp] at f1 f2
  have f3 : U.heap.size ≤ s'.heap.size + (0 + 1) := hsame.2.2.1
  rw [hhp] at f3
  have f4 : T.heap.size < U.heap.size := (Array.getElem?_eq_some_iff.mp hce).1
  rw [hT] at f4
  have f5 : U.heap.size = H.size + 1 := by omega
  have hWs : s.WarmedH U.vm := State.WarmedH.trans hW0 hW
  have hcl : s.vm.findClass cls = some ce.cls := by
    have h9 := hO.cls
    rw [hvm] at h9
    exact h9
  have hall : s.sameButNew ({ U with vm := s.vm } : State) locs mc ms := by
    subst hA
    obtain ⟨e1, e2⟩ := hsame
    rw [State.setFrames_setFrames] at e1
    have h2 : (T.setVm s.vm).sameButNew ({ U with vm := s.vm } : State) [] (0 + 1) (0 + 6) := ⟨e1, e2⟩
    have h3 := X.same.trans h2
    rw [List.append_nil] at h3
    exact h3.mono hc hs
  refine ⟨U, ?_, .threw T.heap.size, hrun, hend, Or.inr ⟨T.heap.size, rfl, cls, ce, locs, hx U hWs.alike f5 (fun q hq => f2 q hq (fun z hz => nomatch hz)), hce, hO.vm, hcl, hWs, hall, hf⟩⟩
  refine st1 _ ?_
  show Steps p.tables e below (T1.setTop { method := m, pc := pc + 3, locals := ls, stack := .ref T.heap.size :: rest, locked := none }) _
  jvm_step X₁.here [X₁.here.top, hexec, d3', Value.category]
  exact X₁.ldcString hexec (own := own) (text := text) (index := is) (a := sa) hown' hstr'.1 hstr'.2
    (g := { method := m, pc := pc + 4, locals := ls, stack := .ref T.heap.size :: .ref T.heap.size :: rest, locked := none }) rfl d4' _ hsteps
end P4x
theorem arrV_ext {c : ClassId} {n : Nat} {f g : Nat → Value} (h : ∀ i, i < n → f i = g i) : arrV c n f = arrV c n g := by
  unfold arrV
  congr 1
  apply Array.ext
  · simp
  · intro i h1 h2
    simp at h1
    simp [h i h1]
theorem nonneg_toInt {z : Int32} (hz : ¬ z < 0) : z.toInt = (z.toNatClampNeg : Int) := by
  have hz0 : (0 : Int) ≤ z.toInt := by
    have := Int32.not_lt.mp hz
    simpa using Int32.le_iff_toInt_le.mp this
  show z.toInt = ((z.toInt.toNat : Nat) : Int)
  omega
section P4
variable {o : OM} {X : CX} {E : MI} {d n0 s0 nE sE L : Nat} {Q : State → Prop} {h : AH} {pc : Nat} {ls : aLS} {st : List Value}
theorem map_cat (o : OM) (st : List Value) : ((st.map (trv o)).map fun v => v.category) = st.map fun v => v.category := by rw [List.map_map]; exact List.map_congr_left fun v _ => trv_cat o v
/-- System.arraycopy of int arrays, from the start, the target whole -/
theorem sd_acopy (F : FR o X E d n0 s0 nE sE) {i wi t a b : Nat} {host : String} {n : Int32} (hLn : L = E.2.2.1) (hd : decode E.2.1 pc = .ok (.invokestatic i, 3)) (hL : look (E.2.2.2.2.1, i) mthT = some (9, wi, t, host)) (hd1 : 1 ≤ d) (hr : (st.map fun v => v.category).sum ≤ 8)
    (ha : hk h a = 10) (hb : hk h b = 10) (h3 : ¬ n < 0) (hn : n.toNatClampNeg = hl h b) (hn2 : hl h b ≤ hl h a)
    (kk : WG o X L n0 s0 Q (wA h b (hA h a)) (pc + 3) ls st) : WG o X L n0 s0 Q h pc ls (.int n :: .int 0 :: .ref b :: .int 0 :: .ref a :: st) := by
  intro lsA H locs q1 q2 q3 q4 q5 q6 T hT Xs
  have hw : lw_tbl[wi]? = some (.methodLink (cR E.2.2.2.2.1) i arraycopyName) := mthT_w hL
  have hc0 : H[oB o + a]? = some (arrV (oT o 10) (hl h a) (fun j => .int (hA h a j))) := (q3.2.2.1 a (q3.lt (by omega))).2.1 ha
  have hc1 : H[oB o + b]? = some (arrV (oT o 10) (hl h b) (fun j => .int (hA h b j))) := (q3.2.2.1 b (q3.lt (by omega))).2.1 hb
  obtain ⟨-, k0, hk0, cm0, hkk0⟩ := F.wf.2.1.1 (hl h a) (fun j => .int (hA h a j))
  obtain ⟨-, k1, hk1, cm1, hkk1⟩ := F.wf.2.1.1 (hl h b) (fun j => .int (hA h b j))
  have h0 : ¬ (0 : Int32) < 0 := by decide
  obtain ⟨vm', X', step⟩ := Xs.arraycopy F.1 F.own (F.w hw rfl) (F.hts _ (by decide +kernel)) (F.hts _ (by decide +kernel)) (F.hts _ (by decide +kernel)) (src := oB o + a) (dst := oB o + b) (srcPos := 0) (destPos := 0) (n := n) (by rw [hT]; exact hc0) (by rw [hT]; exact hc1)
    (fun _ h => by cases h) (fun _ h => by cases h) (fun h => by cases h) (fun h => by cases h) hk0 hk1 hkk0 hkk1 (by simp [refKind]) h0 h0 h3
    (by rw [nonneg_toInt h0, nonneg_toInt h3]; show ¬ _ > ((arrV (oT o 10) (hl h a) (fun j => .int (hA h a j))).slots.size : Int); rw [arrV_size]; show ¬ ((0 : Nat) : Int) + _ > _; omega)
    (by rw [nonneg_toInt h0, nonneg_toInt h3]; show ¬ _ > ((arrV (oT o 10) (hl h b) (fun j => .int (hA h b j))).slots.size : Int); rw [arrV_size]; show ¬ ((0 : Nat) : Int) + _ > _; omega)
    (fun vm₁ _ i hi => by
      have e : (arrV (oT o 10) (hl h a) (fun j => Value.int (hA h a j))).slots.getD ((0 : Int32).toNatClampNeg + i) .null = .int (hA h a i) := by
        rw [Array.getD_eq_getD_getElem?, show (0 : Int32).toNatClampNeg + i = i from Nat.zero_add i, arrV_read _ _ (by omega)]
        rfl
      refine ⟨?_, ?_⟩
      · rw [e]; rfl
      · rw [e]; exact trivial)
    (g := F0 (xm X) pc lsA (.int n :: .int 0 :: .ref (oB o + b) :: .int 0 :: .ref (oB o + a) :: st.map (trv o))) rfl (by show lsA.size = _; rw [F.ml, q1.sz, q2, hLn]) (rest := st.map (trv o)) rfl (by rw [F.2.1]; exact hd) (by have := F.fr; omega)
    (by show 2 * 0 + ((st.map (trv o)).map fun v => v.category).sum + _ ≤ _; rw [map_cat]; have := F.lo; have e9 : nativeFrameWords "java/lang/System" "arraycopy" 5 ≤ 40 := by decide +kernel
        omega)
  have e1 : copied (arrV (oT o 10) (hl h a) (fun j => Value.int (hA h a j))) (arrV (oT o 10) (hl h b) (fun j => Value.int (hA h b j))) 0 0 n = arrV (oT o 10) (hl h b) (fun j => .int (hA h a j)) := by
    have e2 := va_copied (fun z => Value.int z) (oT o 10) (oT o 10) (n0 := hl h a) (n1 := hl h b) (sp := 0) (dp := 0) (n := n.toNatClampNeg) (hA h a) (hA h b) (by omega)
    refine e2.trans (arrV_ext fun i hi => ?_)
    show Value.int (if 0 ≤ i ∧ i < 0 + n.toNatClampNeg then hA h a (0 + (i - 0)) else _) = _
    rw [if_pos (by omega)]
    congr 2
    omega
  rw [e1] at X' step
  have hl1 : oB o + b < H.size := (Array.getElem?_eq_some_iff.mp hc1).1
  have hheap : ((T.setVm vm').setCell (oB o + b) (arrV (oT o 10) (hl h b) (fun j => .int (hA h a j)))).heap = H.setIfInBounds (oB o + b) (arrV (oT o 10) (hl h b) (fun j => .int (hA h a j))) := by rw [← hT]; rfl
  have oq : ∀ q : Nat, q ≠ oB o + b → (H.setIfInBounds (oB o + b) (arrV (oT o 10) (hl h b) (fun j => .int (hA h a j))))[q]? = H[q]? := fun q hq => by simp [Array.getElem?_setIfInBounds, Ne.symm hq]
  have es : (H.setIfInBounds (oB o + b) (arrV (oT o 10) (hl h b) (fun j => Value.int (hA h a j))))[oB o + b]? = some (arrV (oT o 10) (hl h b) (fun j => .int (hA h a j))) := by simp [Array.getElem?_setIfInBounds, hl1]
  obtain ⟨t, a1, b1⟩ := kk lsA _ _ q1 q2 (q3.setA (a := b) (f := hA h a) (Or.inl hb) (fun _ => es) (fun q => by omega) (by simp) oq) ⟨by simp; exact q4.1, fun q g1 g2 => by
      rw [oq q (fun e => g2 (by rw [e]; exact Nat.le_add_right _ _))]
      exact q4.2.1 q g1 g2, fun q hq => by
      rcases List.mem_append.mp hq with h | h
      · exact q4.2.2 q h
      · obtain ⟨z, -, hz⟩ := List.mem_map.mp h
        rw [← hz]
        exact Nat.le_add_right _ _⟩ q5 q6 _ hheap X'
  exact ⟨t, step t a1, b1⟩
/-- new int[n][k] -/
theorem sd_multi (F : FR o X E d n0 s0 nE sE) {i wi : Nat} {n k : Int32} (hd : decode E.2.1 pc = .ok (.multianewarray i 2, 4)) (hL : lw_tbl[wi]? = some (.classLink (cR E.2.2.2.2.1) i "[[I")) (hn : ¬ n < 0) (hk0 : ¬ k < 0) (hn2 : n.toNatClampNeg ≤ 60000000) (hk2 : k.toNatClampNeg ≤ 60000000) (r1 : hN h + 1 + n.toNatClampNeg ≤ nE) (r2 : hS h + n.toNatClampNeg + n.toNatClampNeg * k.toNatClampNeg ≤ sE)
    (kk : WG o X L n0 s0 Q (alM h n.toNatClampNeg k.toNatClampNeg) (pc + 4) ls (.ref (hN h) :: st)) : WG o X L n0 s0 Q h pc ls (.int k :: .int n :: st) := by
  intro lsA H locs q1 q2 q3 q4 q5 q6 T hT Xs
  have r1' := F.ce
  have r2' := F.sl
  obtain ⟨vm₁, cA, comp, -, fA, fC, hO, -, X', step⟩ := Xs.multianewarray2F F.1 F.own (F.w hL rfl) F.wf.2.2.2.2.2.2.2.2.2.2.2.2.2.2.2.2.2 (F.hts _ (by decide +kernel)) (g := F0 (xm X) pc lsA (.int k :: .int n :: st.map (trv o))) rfl (by rw [F.2.1]; exact hd) rfl hn hk0 (by omega) (by show _ * 4 ≤ _; omega) (by omega) rfl rfl (by omega) (by omega)
  have ec : some (oT o 10) = some comp := F.wf.2.1.2.symm.trans fC
  cases ec
  have eA : some (oT o 14) = some cA := F.wf.2.2.2.2.2.1.2.symm.trans fA
  cases eA
  generalize hFf : Jvm.Free.Multi.fill (T.setVm vm₁) (oT o 14) (oT o 10) n.toNatClampNeg k.toNatClampNeg (defaultValue .int) n.toNatClampNeg = Ff at X' step
  have hTh : (T.setVm vm₁).heap = H := hT
  obtain ⟨f1, f2, -, -⟩ := Jvm.Free.Multi.fill_facts (T.setVm vm₁) (oT o 14) (oT o 10) n.toNatClampNeg k.toNatClampNeg (defaultValue .int) n.toNatClampNeg
  rw [hFf, hTh] at f1 f2
  have hold : ∀ x : Nat, x < H.size → Ff.heap[x]? = H[x]? := fun x hx => by
    have := Jvm.Free.Multi.fill_old (T.setVm vm₁) (oT o 14) (oT o 10) n.toNatClampNeg k.toNatClampNeg (defaultValue .int) (a := x) (by rw [hTh]; exact hx) n.toNatClampNeg
    rw [hFf, hTh] at this
    exact this
  have hrow : ∀ j : Nat, j < n.toNatClampNeg → Ff.heap[H.size + 1 + j]? = some (arrV (oT o 10) k.toNatClampNeg (fun _ => .int 0)) := fun j hj => by
    have := Jvm.Free.Multi.fill_inner (T.setVm vm₁) (oT o 14) (oT o 10) n.toNatClampNeg k.toNatClampNeg (defaultValue .int) n.toNatClampNeg j hj
    rw [hFf, hTh] at this
    rw [this, ← arrV_new]
    rfl
  have hout : ∀ i : Nat, Jvm.Free.Multi.outerC (oT o 14) n.toNatClampNeg H.size i = arrV (oT o 14) n.toNatClampNeg (fun j => va_rf (if j < i then some (H.size + 1 + j) else none)) := by
    intro i
    induction i with
    | zero =>
      show ({ cls := oT o 14, slots := Array.replicate n.toNatClampNeg .null, vm := .none } : Cell) = _
      rw [arrV_new]
      refine congrArg (arrV _ _) (funext fun j => ?_)
      simp [va_rf]
    | succ i ih =>
      show (Jvm.Free.Multi.outerC (oT o 14) n.toNatClampNeg H.size i).setSlot i (.ref (H.size + 1 + i)) = _
      rw [ih, arrV_store]
      refine congrArg (arrV _ _) (funext fun j => ?_)
      by_cases e : j = i
      · subst e
        simp [updV, va_rf]
      · by_cases h : j < i
        · simp [updV, e, h, Nat.lt_succ_of_lt h]
        · simp [updV, e, h, show ¬ j < i + 1 by omega]
  rw [hout] at f2
  have rel : aRel o (alM h n.toNatClampNeg k.toNatClampNeg) Ff.heap := by
    have ekk : ∀ i, hk (alM h n.toNatClampNeg k.toNatClampNeg) i = if i = hN h then 14 else if hN h < i ∧ i < hN h + 1 + n.toNatClampNeg then 10 else hk h i := by
      intro i
      show (if i = h.1 then ((14, n.toNatClampNeg) : Nat × Nat) else if h.1 < i ∧ i < h.1 + 1 + n.toNatClampNeg then (10, k.toNatClampNeg) else h.2.2.1 i).1 = if i = h.1 then 14 else if h.1 < i ∧ i < h.1 + 1 + n.toNatClampNeg then 10 else (h.2.2.1 i).1
      split
      · rfl
      · split <;> rfl
    have ell : ∀ i, hl (alM h n.toNatClampNeg k.toNatClampNeg) i = if i = hN h then n.toNatClampNeg else if hN h < i ∧ i < hN h + 1 + n.toNatClampNeg then k.toNatClampNeg else hl h i := by
      intro i
      show (if i = h.1 then ((14, n.toNatClampNeg) : Nat × Nat) else if h.1 < i ∧ i < h.1 + 1 + n.toNatClampNeg then (10, k.toNatClampNeg) else h.2.2.1 i).2 = if i = h.1 then n.toNatClampNeg else if h.1 < i ∧ i < h.1 + 1 + n.toNatClampNeg then k.toNatClampNeg else (h.2.2.1 i).2
      split
      · rfl
      · split <;> rfl
    refine q3.push (n := 1 + n.toNatClampNeg) (by show h.1 + 1 + _ = h.1 + (1 + _); omega) (fun i hi => by rw [ekk, if_neg (by omega), if_neg (by omega)]) (fun i hi => by rw [ell, if_neg (by omega), if_neg (by omega)]) rfl (by rw [f1]; omega) hold (fun _ _ _ => rfl) (fun i hi => if_neg (show ¬ (h.1 < i ∧ i < _) from fun q => by have : i < h.1 := hi; omega)) (fun _ _ => rfl) (fun i hi => if_neg (show ¬ i = h.1 from Nat.ne_of_lt hi)) (fun i hi hi2 => ?_)
    by_cases e : i = hN h
    · subst e
      have ek : hk (alM h n.toNatClampNeg k.toNatClampNeg) (hN h) = 14 := by rw [ekk, if_pos rfl]
      have el : hl (alM h n.toNatClampNeg k.toNatClampNeg) (hN h) = n.toNatClampNeg := by rw [ell, if_pos rfl]
      have eR : hR (alM h n.toNatClampNeg k.toNatClampNeg) (hN h) = fun j => if j < n.toNatClampNeg then some (h.1 + 1 + j) else none := if_pos rfl
      rw [aAt, ek, el, eR]
      refine ⟨fun ci h1 h2 => by omega, fun q => by omega, fun q => by omega, fun q => by omega, fun q => by omega, fun _ => ?_⟩
      rw [← q3.1, f2]
      refine congrArg (fun f => some (arrV (oT o 14) n.toNatClampNeg f)) (funext fun j => ?_)
      by_cases hj : j < n.toNatClampNeg
      · rw [if_pos hj]
        show va_rf (some (H.size + 1 + j)) = va_rf (Option.map (fun a => oB o + a) (if j < n.toNatClampNeg then some (h.1 + 1 + j) else none))
        rw [if_pos hj]
        show Value.ref (H.size + 1 + j) = .ref (oB o + (h.1 + 1 + j))
        rw [q3.1]
        congr 1
        show oB o + h.1 + 1 + j = _
        omega
      · rw [if_neg hj]
        show va_rf none = va_rf (Option.map (fun a => oB o + a) (if j < n.toNatClampNeg then some (h.1 + 1 + j) else none))
        rw [if_neg hj]
        rfl
    · have ek : hk (alM h n.toNatClampNeg k.toNatClampNeg) i = 10 := by rw [ekk, if_neg e, if_pos (by omega)]
      have el : hl (alM h n.toNatClampNeg k.toNatClampNeg) i = k.toNatClampNeg := by rw [ell, if_neg e, if_pos (by omega)]
      have eA : hA (alM h n.toNatClampNeg k.toNatClampNeg) i = fun _ => 0 := if_pos (show h.1 < i ∧ i < h.1 + 1 + _ from ⟨by have : h.1 ≤ i := hi; have : i ≠ h.1 := e; omega, by have : i < h.1 + (1 + _) := hi2; omega⟩)
      rw [aAt, ek, el, eA]
      refine ⟨fun ci h1 h2 => by omega, fun _ => ?_, fun q => by omega, fun q => by omega, fun q => by omega, fun q => by omega⟩
      have := hrow (i - hN h - 1) (by omega)
      rw [q3.1, show oB o + hN h + 1 + (i - hN h - 1) = oB o + i by omega] at this
      exact this
  have kk := kk lsA Ff.heap locs q1 q2 rel ⟨by rw [f1]; have := q4.1; omega, fun x h1 h2 => (hold x (Nat.lt_of_lt_of_le h1 q4.1)).trans (q4.2.1 x h1 h2), q4.2.2⟩ (by show n0 ≤ hN h + 1 + _; omega) (by show s0 ≤ hS h + _ + _; omega)
  rw [show hN (alM h n.toNatClampNeg k.toNatClampNeg) - n0 = hN h - n0 + 1 + n.toNatClampNeg from (by show hN h + 1 + _ - n0 = _; omega), show hS (alM h n.toNatClampNeg k.toNatClampNeg) - s0 = hS h - s0 + n.toNatClampNeg + n.toNatClampNeg * k.toNatClampNeg from (by show hS h + _ + _ - s0 = _; omega)] at kk
  obtain ⟨t, a1, b1⟩ := kk Ff rfl X'
  refine ⟨t, step t ?_, b1⟩
  have e : T.heap.size = oB o + hN h := by rw [hT]; exact q3.1
  rw [e]
  exact a1
end P4
