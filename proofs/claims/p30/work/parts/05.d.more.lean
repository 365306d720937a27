/-! SOUNDNESS, part 4: copies, grids, ends of methods, throws (am_throwS began as vx_throwS of kit/laws/EXCEPTIONS), calls -/
section P4x
variable {p : Program} {l : Launch} {e : Env} {R : Room} {s : State} {m : MethodId} {args : Array Value} {below : List Frame} {meth : Method} {c : Code} {H : Heap} {locs : List Loc} {cells slots : Nat} {Q : State → Prop}
variable {mc ms : Nat} {free : Addr → Prop} {A0 A1 : Nat → Prop} {H0 : Heap} {a : Array Value} {ls : Array Slot} {st0 rest : List Value}
variable {Qc : Array Value → State → Outcome → State → Prop} {XC : String → State → State → Prop}
theorem am_throwS {cc : ByteArray} {pc : Nat} (hexec : p.tables.exec = Jvm.exec) (hb : c.code = cc) (hl : l.stackTraces = false) {own cls text : String} {names : List String} {ik is ic mc ms sa : Nat} {A : Nat → Prop}
    (hown : s.vm.findClass own = some m.cls) (hcls : Bundle.fit cls = true) (hnames : ∀ n ∈ names, Bundle.fit n = true)
    (hk : (Cond.classLink own ik cls).before args s = true) (hini : (Cond.initialized cls).before args s = true) (hstr : vk_R own is text sa s) (hat : ∀ w ∈ vx_atS own ic cls names, w.before args s = true)
    (hgood : ∀ w ∈ Cond.classLink own ik cls :: Cond.initialized cls :: vx_atS own ic cls names, vx_ot w = true)
    (hU : vx_Zq Bundle.tN "UNASSIGNED_STACK" Bundle.steD A s s.heap) (hN : vx_Zq Bundle.tN "SUPPRESSED_SENTINEL" Bundle.listD A s s.heap) (hS : va_S A s.heap H locs) (hsize : ls.size = c.maxLocals)
    (d0 : decode cc pc = .ok (.new ik, 3)) (d3 : decode cc (pc + 3) = .ok (.dup, 1)) (d4 : decode cc (pc + 4) = .ok (.ldc is, 2)) (d6 : decode cc (pc + 6) = .ok (.invokespecial ic, 3)) (d9 : decode cc (pc + 9) = .ok (.athrow, 1))
    (hout : ∀ x ∈ c.exceptionTable.toList, covers x (pc + 9) = false)
    (hRframes : names.length + 3 < R.frames) (hRlocals : (rest.map fun v => v.category).sum + (13 * (names.length + 1) + 43) ≤ R.locals) (hRcells : cells + 1 ≤ R.cells) (hRslots : slots + 6 ≤ R.slots) (hlocks : meth.locks = false)
    (hx : ∀ t : State, s.vm.Alike t.vm → t.heap.size = H.size + 1 → (∀ q : Nat, q < H.size → t.heap[q]? = H[q]?) → XC cls s t)
    (hf : ∀ z ∈ locs, free z.base) (hc : cells + 1 ≤ mc) (hs : slots + 6 ≤ ms) :
    W p l e R s m args below meth c H locs cells slots (vx_MQ below Qc XC args s mc ms free) (F0 m pc ls rest) := by
  intro T hT X
  have htr : e.platform.stackTraces = false := (show e.platform.stackTraces = l.stackTraces by rw [X.admits.platform]).trans hl
  have Y := vx_rebase X (R' := { frames := R.frames, locals := R.locals, cells := 1, slots := 6 }) (Nat.le_refl _) (Nat.le_refl _) hRcells hRslots
  obtain ⟨s', hA⟩ : ∃ z, z = (T.setVm s.vm).setFrames (.invoking m args :: below) := ⟨_, rfl⟩
  rw [← hA] at Y
  have hvm : s'.vm = s.vm := by rw [hA]; rfl
  have hhp : s'.heap = H := by rw [hA]; exact hT
  have hW0 : s.WarmedH s'.vm := by rw [hvm]; exact State.WarmedH.refl s
  have hat' : ∀ w ∈ vx_atS own ic cls names, w.before args s' = true := fun w hw => vx_ot_at hW0 hvm.symm (hgood w (List.mem_cons_of_mem _ (List.mem_cons_of_mem _ hw))) (hat w hw)
  have hk' : (Cond.classLink own ik cls).before args s' = true := vx_ot_at hW0 hvm.symm (hgood _ List.mem_cons_self) hk
  have hini' : (Cond.initialized cls).before args s' = true := vx_ot_at hW0 hvm.symm (hgood _ (List.mem_cons_of_mem _ List.mem_cons_self)) hini
  have hU' : vx_Zq Bundle.tN "UNASSIGNED_STACK" Bundle.steD A s' s'.heap := by rw [hhp]; exact vx_Zq.moved hW0.alike (hU.kept hS.2.1)
  have hN' : vx_Zq Bundle.tN "SUPPRESSED_SENTINEL" Bundle.listD A s' s'.heap := by rw [hhp]; exact vx_Zq.moved hW0.alike (hN.kept hS.2.1)
  have h : ∀ w ∈ Bundle.ownAtoms own ic cls names, w.before args s' = true := vx_own hat' (vx_isRefq hU'.1) (vx_isRefq hN'.1) hU'.2.word hN'.2.word
  have hown' : s'.vm.findClass own = some m.cls := by rw [hvm]; exact hown
  have hins : (Cond.instantiable cls 6).before args s' = true := h _ (by simp [Bundle.ownAtoms])
  obtain ⟨vm₁, cX, kX, hfX, hkX, -, -, X₁, st1⟩ := Y.newCold hexec (own := own) (C := cls) (index := ik) (n := 6) hown' hk' hins hini'
    (g := F0 m pc ls rest) rfl (by rw [hb]; exact d0) (Nat.le_refl _) (Nat.le_refl _)
  generalize hT1 : (T.setVm vm₁).pushCell { cls := cX, slots := kX.instanceTypes.map defaultValue, vm := .none } = T1 at X₁ st1
  have hcat : (Value.ref T.heap.size).category = 1 := rfl
  have hcellA : T1.heap[T.heap.size]? = some (freshCell cX kX) := by rw [← hT1]; exact State.heap_pushCell_size _ _
  have d3' : decode c.code (pc + 3) = .ok (.dup, 1) := by rw [hb]; exact d3
  have d4' : decode c.code (pc + 4) = .ok (.ldc is, 2) := by rw [hb]; exact d4
  have hstr' : vk_R own is text sa s' := vk_R.warm hW0 hstr
  obtain ⟨U, hsteps, hrun, hend, hW, hsame, ce, hce, hO⟩ := X₁.ctorThrowS hexec htr (own := own) (cls := cls) (names := names) (ic := ic) hown' hcls hnames h (fun x hx => nomatch hx) hfX hkX hcellA (by rw [hhp, hT]; exact Nat.le_refl _) (msg := .ref sa) rfl
    (g := { method := m, pc := pc + 6, locals := ls, stack := .ref sa :: .ref T.heap.size :: .ref T.heap.size :: rest, locked := none }) rfl hsize rfl rfl (rest := rest) rfl
    (by rw [hb]; exact d6) (by rw [hb]; exact d9) hout hRframes (by simp only [List.map_cons, List.sum_cons, hcat]; omega) hlocks
  obtain ⟨f1, f2⟩ := vx_frame hsame
  rw [hhp] at f1 f2
  have f3 : U.heap.size ≤ s'.heap.size + (0 + 1) := hsame.2.2.1
  rw [hhp] at f3
  have f4 : T.heap.size < U.heap.size := (Array.getElem?_eq_some_iff.mp hce).1
  rw [hT] at f4
  have f5 : U.heap.size = H.size + 1 := by omega
  have hWs : s.WarmedH U.vm := State.WarmedH.trans hW0 hW
  have hcl : s.vm.findClass cls = some ce.cls := by
    have h9 := hO.cls
    rw [hvm] at h9
    exact h9
  have hall : s.sameButNew ({ U with vm := s.vm } : State) locs mc ms := by
    subst hA
    obtain ⟨e1, e2⟩ := hsame
    rw [State.setFrames_setFrames] at e1
    have h2 : (T.setVm s.vm).sameButNew ({ U with vm := s.vm } : State) [] (0 + 1) (0 + 6) := ⟨e1, e2⟩
    have h3 := X.same.trans h2
    rw [List.append_nil] at h3
    exact h3.mono hc hs
  refine ⟨U, ?_, .threw T.heap.size, hrun, hend, Or.inr ⟨T.heap.size, rfl, cls, ce, locs, hx U hWs.alike f5 (fun q hq => f2 q hq (fun z hz => nomatch hz)), hce, hO.vm, hcl, hWs, hall, hf⟩⟩
  refine st1 _ ?_
  show Steps p.tables e below (T1.setTop { method := m, pc := pc + 3, locals := ls, stack := .ref T.heap.size :: rest, locked := none }) _
  jvm_step X₁.here [X₁.here.top, hexec, d3', Value.category]
  exact X₁.ldcString hexec (own := own) (text := text) (index := is) (a := sa) hown' hstr'.1 hstr'.2
    (g := { method := m, pc := pc + 4, locals := ls, stack := .ref T.heap.size :: .ref T.heap.size :: rest, locked := none }) rfl d4' _ hsteps
end P4x
theorem arrV_ext {c : ClassId} {n : Nat} {f g : Nat → Value} (h : ∀ i, i < n → f i = g i) : arrV c n f = arrV c n g := by
  unfold arrV
  congr 1
  apply Array.ext
  · simp
  · intro i h1 h2
    simp at h1
    simp [h i h1]
theorem nonneg_toInt {z : Int32} (hz : ¬ z < 0) : z.toInt = (z.toNatClampNeg : Int) := by
  have hz0 : (0 : Int) ≤ z.toInt := by
    have := Int32.not_lt.mp hz
    simpa using Int32.le_iff_toInt_le.mp this
  show z.toInt = ((z.toInt.toNat : Nat) : Int)
  omega
section P4
variable {o : OM} {X : CX} {E : MI} {d n0 s0 nE sE L : Nat} {Q : State → Prop} {h : AH} {pc : Nat} {ls : aLS} {st : List Value}
theorem map_cat (o : OM) (st : List Value) : ((st.map (trv o)).map fun v => v.category) = st.map fun v => v.category := by rw [List.map_map]; exact List.map_congr_left fun v _ => trv_cat o v
/-- System.arraycopy of int arrays, from the start, the target whole -/
theorem sd_acopy (F : FR o X E d n0 s0 nE sE) {i wi t a b : Nat} {host : String} {n : Int32} (hLn : L = E.2.2.1) (hd : decode E.2.1 pc = .ok (.invokestatic i, 3)) (hL : look (E.2.2.2.2.1, i) mthT = some (9, wi, t, host)) (hd1 : 1 ≤ d) (hr : (st.map fun v => v.category).sum ≤ 8)
    (ha : hk h a = 10) (hb : hk h b = 10) (h3 : ¬ n < 0) (hn : n.toNatClampNeg = hl h b) (hn2 : hl h b ≤ hl h a)
    (kk : WG o X L n0 s0 Q (wA h b (hA h a)) (pc + 3) ls st) : WG o X L n0 s0 Q h pc ls (.int n :: .int 0 :: .ref b :: .int 0 :: .ref a :: st) := by
  intro lsA H locs q1 q2 q3 q4 q5 q6 T hT Xs
  have hw : lw_tbl[wi]? = some (.methodLink (cR E.2.2.2.2.1) i arraycopyName) := mthT_w hL
  have hc0 : H[oB o + a]? = some (arrV (oT o 10) (hl h a) (fun j => .int (hA h a j))) := (q3.2.2.1 a (q3.lt (by omega))).2.1 ha
  have hc1 : H[oB o + b]? = some (arrV (oT o 10) (hl h b) (fun j => .int (hA h b j))) := (q3.2.2.1 b (q3.lt (by omega))).2.1 hb
  obtain ⟨-, k0, hk0, cm0, hkk0⟩ := F.wf.2.1.1 (hl h a) (fun j => .int (hA h a j))
  obtain ⟨-, k1, hk1, cm1, hkk1⟩ := F.wf.2.1.1 (hl h b) (fun j => .int (hA h b j))
  have h0 : ¬ (0 : Int32) < 0 := by decide
  obtain ⟨vm', X', step⟩ := Xs.arraycopy F.1 F.own (F.w hw rfl) (F.hts _ (by decide +kernel)) (F.hts _ (by decide +kernel)) (F.hts _ (by decide +kernel)) (src := oB o + a) (dst := oB o + b) (srcPos := 0) (destPos := 0) (n := n) (by rw [hT]; exact hc0) (by rw [hT]; exact hc1)
    (fun _ h => by cases h) (fun _ h => by cases h) (fun h => by cases h) (fun h => by cases h) hk0 hk1 hkk0 hkk1 (by simp [refKind]) h0 h0 h3
    (by rw [nonneg_toInt h0, nonneg_toInt h3]; show ¬ _ > ((arrV (oT o 10) (hl h a) (fun j => .int (hA h a j))).slots.size : Int); rw [arrV_size]; show ¬ ((0 : Nat) : Int) + _ > _; omega)
    (by rw [nonneg_toInt h0, nonneg_toInt h3]; show ¬ _ > ((arrV (oT o 10) (hl h b) (fun j => .int (hA h b j))).slots.size : Int); rw [arrV_size]; show ¬ ((0 : Nat) : Int) + _ > _; omega)
    (fun vm₁ _ i hi => by
      have e : (arrV (oT o 10) (hl h a) (fun j => Value.int (hA h a j))).slots.getD ((0 : Int32).toNatClampNeg + i) .null = .int (hA h a i) := by
        rw [Array.getD_eq_getD_getElem?, show (0 : Int32).toNatClampNeg + i = i from Nat.zero_add i, arrV_read _ _ (by omega)]
        rfl
      refine ⟨?_, ?_⟩
      · rw [e]; rfl
      · rw [e]; exact trivial)
    (g := F0 (xm X) pc lsA (.int n :: .int 0 :: .ref (oB o + b) :: .int 0 :: .ref (oB o + a) :: st.map (trv o))) rfl (by show lsA.size = _; rw [F.ml, q1.sz, q2, hLn]) (rest := st.map (trv o)) rfl (by rw [F.2.1]; exact hd) (by have := F.fr; omega)
    (by show 2 * 0 + ((st.map (trv o)).map fun v => v.category).sum + _ ≤ _; rw [map_cat]; have := F.lo; have e9 : nativeFrameWords "java/lang/System" "arraycopy" 5 ≤ 40 := by decide +kernel
        omega)
  have e1 : copied (arrV (oT o 10) (hl h a) (fun j => Value.int (hA h a j))) (arrV (oT o 10) (hl h b) (fun j => Value.int (hA h b j))) 0 0 n = arrV (oT o 10) (hl h b) (fun j => .int (hA h a j)) := by
    have e2 := va_copied (fun z => Value.int z) (oT o 10) (oT o 10) (n0 := hl h a) (n1 := hl h b) (sp := 0) (dp := 0) (n := n.toNatClampNeg) (hA h a) (hA h b) (by omega)
    refine e2.trans (arrV_ext fun i hi => ?_)
    show Value.int (if 0 ≤ i ∧ i < 0 + n.toNatClampNeg then hA h a (0 + (i - 0)) else _) = _
    rw [if_pos (by omega)]
    congr 2
    omega
  rw [e1] at X' step
  have hl1 : oB o + b < H.size := (Array.getElem?_eq_some_iff.mp hc1).1
  have hheap : ((T.setVm vm').setCell (oB o + b) (arrV (oT o 10) (hl h b) (fun j => .int (hA h a j)))).heap = H.setIfInBounds (oB o + b) (arrV (oT o 10) (hl h b) (fun j => .int (hA h a j))) := by rw [← hT]; rfl
  have oq : ∀ q : Nat, q ≠ oB o + b → (H.setIfInBounds (oB o + b) (arrV (oT o 10) (hl h b) (fun j => .int (hA h a j))))[q]? = H[q]? := fun q hq => by simp [Array.getElem?_setIfInBounds, Ne.symm hq]
  have es : (H.setIfInBounds (oB o + b) (arrV (oT o 10) (hl h b) (fun j => Value.int (hA h a j))))[oB o + b]? = some (arrV (oT o 10) (hl h b) (fun j => .int (hA h a j))) := by simp [Array.getElem?_setIfInBounds, hl1]
  obtain ⟨t, a1, b1⟩ := kk lsA _ _ q1 q2 (q3.setA (a := b) (f := hA h a) (Or.inl hb) (fun _ => es) (fun q => by omega) (by simp) oq) ⟨by simp; exact q4.1, fun q g1 g2 => by
      rw [oq q (fun e => g2 (by rw [e]; exact oLB _ _))]
      exact q4.2.1 q g1 g2, fun q hq => by
      rcases List.mem_append.mp hq with h | h
      · exact q4.2.2 q h
      · obtain ⟨z, -, hz⟩ := List.mem_map.mp h
        rw [← hz]
        exact oLB _ _⟩ q5 q6 _ hheap X'
  exact ⟨t, step t a1, b1⟩
/-- new int[n][k] -/
theorem sd_multi (F : FR o X E d n0 s0 nE sE) {i wi : Nat} {n k : Int32} (hd : decode E.2.1 pc = .ok (.multianewarray i 2, 4)) (hL : lw_tbl[wi]? = some (.classLink (cR E.2.2.2.2.1) i "[[I")) (hn : ¬ n < 0) (hk0 : ¬ k < 0) (hn2 : n.toNatClampNeg ≤ 60000000) (hk2 : k.toNatClampNeg ≤ 60000000) (r1 : oO o + (hN h + 1 + n.toNatClampNeg) ≤ nE) (r2 : hS h + n.toNatClampNeg + n.toNatClampNeg * k.toNatClampNeg ≤ sE)
    (kk : WG o X L n0 s0 Q (alM h n.toNatClampNeg k.toNatClampNeg) (pc + 4) ls (.ref (hN h) :: st)) : WG o X L n0 s0 Q h pc ls (.int k :: .int n :: st) := by
  intro lsA H locs q1 q2 q3 q4 q5 q6 T hT Xs
  have r1' := F.ce
  have r2' := F.sl
  obtain ⟨vm₁, cA, comp, -, fA, fC, hO, -, X', step⟩ := Xs.multianewarray2F F.1 F.own (F.w hL rfl) F.wf.2.2.2.2.2.2.2.2.2.2.2.2.2.2.2.2.2.1 (F.hts _ (by decide +kernel)) (g := F0 (xm X) pc lsA (.int k :: .int n :: st.map (trv o))) rfl (by rw [F.2.1]; exact hd) rfl hn hk0 (by omega) (by show _ * 4 ≤ _; omega) (by omega) rfl rfl (by omega) (by omega)
  have ec : some (oT o 10) = some comp := F.wf.2.1.2.symm.trans fC
  cases ec
  have eA : some (oT o 14) = some cA := F.wf.2.2.2.2.2.1.2.symm.trans fA
  cases eA
  generalize hFf : Jvm.Free.Multi.fill (T.setVm vm₁) (oT o 14) (oT o 10) n.toNatClampNeg k.toNatClampNeg (defaultValue .int) n.toNatClampNeg = Ff at X' step
  have hTh : (T.setVm vm₁).heap = H := hT
  obtain ⟨f1, f2, -, -⟩ := Jvm.Free.Multi.fill_facts (T.setVm vm₁) (oT o 14) (oT o 10) n.toNatClampNeg k.toNatClampNeg (defaultValue .int) n.toNatClampNeg
  rw [hFf, hTh] at f1 f2
  have hold : ∀ x : Nat, x < H.size → Ff.heap[x]? = H[x]? := fun x hx => by
    have := Jvm.Free.Multi.fill_old (T.setVm vm₁) (oT o 14) (oT o 10) n.toNatClampNeg k.toNatClampNeg (defaultValue .int) (a := x) (by rw [hTh]; exact hx) n.toNatClampNeg
    rw [hFf, hTh] at this
    exact this
  have hrow : ∀ j : Nat, j < n.toNatClampNeg → Ff.heap[H.size + 1 + j]? = some (arrV (oT o 10) k.toNatClampNeg (fun _ => .int 0)) := fun j hj => by
    have := Jvm.Free.Multi.fill_inner (T.setVm vm₁) (oT o 14) (oT o 10) n.toNatClampNeg k.toNatClampNeg (defaultValue .int) n.toNatClampNeg j hj
    rw [hFf, hTh] at this
    rw [this, ← arrV_new]
    rfl
  have hout : ∀ i : Nat, Jvm.Free.Multi.outerC (oT o 14) n.toNatClampNeg H.size i = arrV (oT o 14) n.toNatClampNeg (fun j => va_rf (if j < i then some (H.size + 1 + j) else none)) := by
    intro i
    induction i with
    | zero =>
      show ({ cls := oT o 14, slots := Array.replicate n.toNatClampNeg .null, vm := .none } : Cell) = _
      rw [arrV_new]
      refine congrArg (arrV _ _) (funext fun j => ?_)
      simp [va_rf]
    | succ i ih =>
      show (Jvm.Free.Multi.outerC (oT o 14) n.toNatClampNeg H.size i).setSlot i (.ref (H.size + 1 + i)) = _
      rw [ih, arrV_store]
      refine congrArg (arrV _ _) (funext fun j => ?_)
      by_cases e : j = i
      · subst e
        simp [updV, va_rf]
      · by_cases h : j < i
        · simp [updV, e, h, Nat.lt_succ_of_lt h]
        · simp [updV, e, h, show ¬ j < i + 1 by omega]
  rw [hout] at f2
  have rel : aRel o (alM h n.toNatClampNeg k.toNatClampNeg) Ff.heap := by
    have ekk : ∀ i, hk (alM h n.toNatClampNeg k.toNatClampNeg) i = if i = hN h then 14 else if hN h < i ∧ i < hN h + 1 + n.toNatClampNeg then 10 else hk h i := by
      intro i
      show (if i = h.1 then ((14, n.toNatClampNeg) : Nat × Nat) else if h.1 < i ∧ i < h.1 + 1 + n.toNatClampNeg then (10, k.toNatClampNeg) else h.2.2.1 i).1 = if i = h.1 then 14 else if h.1 < i ∧ i < h.1 + 1 + n.toNatClampNeg then 10 else (h.2.2.1 i).1
      split
      · rfl
      · split <;> rfl
    have ell : ∀ i, hl (alM h n.toNatClampNeg k.toNatClampNeg) i = if i = hN h then n.toNatClampNeg else if hN h < i ∧ i < hN h + 1 + n.toNatClampNeg then k.toNatClampNeg else hl h i := by
      intro i
      show (if i = h.1 then ((14, n.toNatClampNeg) : Nat × Nat) else if h.1 < i ∧ i < h.1 + 1 + n.toNatClampNeg then (10, k.toNatClampNeg) else h.2.2.1 i).2 = if i = h.1 then n.toNatClampNeg else if h.1 < i ∧ i < h.1 + 1 + n.toNatClampNeg then k.toNatClampNeg else (h.2.2.1 i).2
      split
      · rfl
      · split <;> rfl
    refine q3.push (n := 1 + n.toNatClampNeg) (by show h.1 + 1 + _ = h.1 + (1 + _); omega) (fun i hi => by rw [ekk, if_neg (by omega), if_neg (by omega)]) (fun i hi => by rw [ell, if_neg (by omega), if_neg (by omega)]) rfl (by rw [f1]; omega) hold (fun _ _ _ => rfl) (fun i hi => if_neg (show ¬ (h.1 < i ∧ i < _) from fun q => by have : i < h.1 := hi; omega)) (fun _ _ => rfl) (fun i hi => if_neg (show ¬ i = h.1 from Nat.ne_of_lt hi)) (fun i hi hi2 => ?_)
    by_cases e : i = hN h
    · subst e
      have ek : hk (alM h n.toNatClampNeg k.toNatClampNeg) (hN h) = 14 := by rw [ekk, if_pos rfl]
      have el : hl (alM h n.toNatClampNeg k.toNatClampNeg) (hN h) = n.toNatClampNeg := by rw [ell, if_pos rfl]
      have eR : hR (alM h n.toNatClampNeg k.toNatClampNeg) (hN h) = fun j => if j < n.toNatClampNeg then some (h.1 + 1 + j) else none := if_pos rfl
      rw [aAt, ek, el, eR]
      refine ⟨fun ci h1 h2 => by have := kc_rng ci; omega, fun q => by omega, fun q => by omega, fun q => by omega, fun k2 g1 g2 q => ?_⟩
      subst q
      rw [← q3.1, f2]
      refine congrArg (fun f => some (arrV (oT o 14) n.toNatClampNeg f)) (funext fun j => ?_)
      by_cases hj : j < n.toNatClampNeg
      · rw [if_pos hj]
        show va_rf (some (H.size + 1 + j)) = va_rf (Option.map (fun a => oB o + a) (if j < n.toNatClampNeg then some (h.1 + 1 + j) else none))
        rw [if_pos hj]
        show Value.ref (H.size + 1 + j) = .ref (oB o + (h.1 + 1 + j))
        rw [q3.1]
        congr 1
        show oB o + h.1 + 1 + j = _
        omega
      · rw [if_neg hj]
        show va_rf none = va_rf (Option.map (fun a => oB o + a) (if j < n.toNatClampNeg then some (h.1 + 1 + j) else none))
        rw [if_neg hj]
        rfl
    · have ek : hk (alM h n.toNatClampNeg k.toNatClampNeg) i = 10 := by rw [ekk, if_neg e, if_pos (by omega)]
      have el : hl (alM h n.toNatClampNeg k.toNatClampNeg) i = k.toNatClampNeg := by rw [ell, if_neg e, if_pos (by omega)]
      have eA : hA (alM h n.toNatClampNeg k.toNatClampNeg) i = fun _ => 0 := if_pos (show h.1 < i ∧ i < h.1 + 1 + _ from ⟨by have : h.1 ≤ i := hi; have : i ≠ h.1 := e; omega, by have : i < h.1 + (1 + _) := hi2; omega⟩)
      rw [aAt, ek, el, eA]
      refine ⟨fun ci h1 h2 => by have := kc_rng ci; omega, fun _ => ?_, fun q => by omega, fun q => by omega, fun k2 g1 g2 q => by omega⟩
      have := hrow (i - hN h - 1) (by omega)
      rw [q3.1, show oB o + hN h + 1 + (i - hN h - 1) = oB o + i by omega] at this
      exact this
  have kk := kk lsA Ff.heap locs q1 q2 rel ⟨by rw [f1]; have := q4.1; omega, fun x h1 h2 => (hold x (Nat.lt_of_lt_of_le h1 q4.1)).trans (q4.2.1 x h1 h2), q4.2.2⟩ (by show n0 ≤ oO o + (hN h + 1 + _); omega) (by show s0 ≤ hS h + _ + _; omega)
  rw [show oO o + hN (alM h n.toNatClampNeg k.toNatClampNeg) - n0 = oO o + hN h - n0 + 1 + n.toNatClampNeg from (by show oO o + (hN h + 1 + _) - n0 = _; omega), show hS (alM h n.toNatClampNeg k.toNatClampNeg) - s0 = hS h - s0 + n.toNatClampNeg + n.toNatClampNeg * k.toNatClampNeg from (by show hS h + _ + _ - s0 = _; omega)] at kk
  obtain ⟨t, a1, b1⟩ := kk Ff rfl X'
  refine ⟨t, step t ?_, b1⟩
  have e : T.heap.size = oB o + hN h := by rw [hT]; exact q3.1
  rw [e]
  exact a1
/-- bytes -/
abbrev byOK (f : Nat → Int32) (sp n : Nat) : Prop := ∀ i, i < n → -128 ≤ f (sp + i) ∧ f (sp + i) ≤ 127
theorem byOK_fits {f : Nat → Int32} {sp n i : Nat} (h : byOK f sp n) (hi : i < n) : fits .byte (.int (f (sp + i))) = true := by
  obtain ⟨h1, h2⟩ := h i hi
  show (decide (-128 ≤ f (sp + i)) && decide (f (sp + i) ≤ 127)) = true
  rw [decide_eq_true h1, decide_eq_true h2]
  rfl
/-- System.arraycopy of bytes, out of a row of bytes or a String constant's -/
theorem sd_bcopy0 (F : FR o X E d n0 s0 nE sE) {i wi t b src n1 : Nat} {host : String} {sp dp n : Int32} {f : Nat → Int32} (hLn : L = E.2.2.1) (hd : decode E.2.1 pc = .ok (.invokestatic i, 3)) (hL : look (E.2.2.2.2.1, i) mthT = some (9, wi, t, host)) (hd1 : 1 ≤ d) (hr : (st.map fun v => v.category).sum ≤ 8) {sv : Value} (hsv : trv o sv = .ref src)
    (hsrc : ∀ (H : Heap) (locs : List Loc), aRel o h H → va_S (fun q => oL o ≤ q) (xs X).heap H locs → ∃ cs : Cell, H[src]? = some cs ∧ (xs X).isArrayOf cs .byte ∧ cs.vm ≠ .unknown ∧ n1 ≤ cs.slots.size ∧ ∀ j, j < n1 → cs.slots[j]? = some (.int (f j)))
    (hb : hk h b = 11) (h1 : ¬ sp < 0) (h2 : ¬ dp < 0) (h3 : ¬ n < 0) (h4 : sp.toNatClampNeg + n.toNatClampNeg ≤ n1) (h5 : dp.toNatClampNeg + n.toNatClampNeg ≤ hl h b) (hby : byOK f sp.toNatClampNeg n.toNatClampNeg)
    (kk : WG o X L n0 s0 Q (wA h b (va_cpy f (hA h b) sp.toNatClampNeg dp.toNatClampNeg n.toNatClampNeg)) (pc + 3) ls st) : WG o X L n0 s0 Q h pc ls (.int n :: .int dp :: .ref b :: .int sp :: sv :: st) := by
  intro lsA H locs q1 q2 q3 q4 q5 q6 T hT Xs
  have hw : lw_tbl[wi]? = some (.methodLink (cR E.2.2.2.2.1) i arraycopyName) := mthT_w hL
  obtain ⟨cs, hc0, hs2, hs3, hs4, hs5⟩ := hsrc H locs q3 q4
  have hc1 : H[oB o + b]? = some (arrV (oT o 11) (hl h b) (fun j => .int (hA h b j))) := (q3.2.2.1 b (q3.lt (by omega))).2.2.1 hb
  obtain ⟨hs6, k0, hk0, cm0, hkk0⟩ := hs2
  obtain ⟨-, k1, hk1, cm1, hkk1⟩ := F.wf.2.2.1.1 (hl h b) (fun j => .int (hA h b j))
  obtain ⟨vm', X', step⟩ := Xs.arraycopy F.1 F.own (F.w hw rfl) (F.hts _ (by decide +kernel)) (F.hts _ (by decide +kernel)) (F.hts _ (by decide +kernel)) (src := src) (dst := oB o + b) (srcPos := sp) (destPos := dp) (n := n) (by rw [hT]; exact hc0) (by rw [hT]; exact hc1)
    hs6 (fun _ h => by cases h) hs3 (fun h => by cases h) hk0 hk1 hkk0 hkk1 (by simp [refKind]) h1 h2 h3
    (by rw [nonneg_toInt h1, nonneg_toInt h3]; omega)
    (by rw [nonneg_toInt h2, nonneg_toInt h3]; show ¬ _ > ((arrV (oT o 11) (hl h b) (fun j => .int (hA h b j))).slots.size : Int); rw [arrV_size]; omega)
    (fun vm₁ _ i hi => by
      have e : cs.slots.getD (sp.toNatClampNeg + i) .null = .int (f (sp.toNatClampNeg + i)) := by
        rw [Array.getD_eq_getD_getElem?, hs5 _ (by omega)]
        rfl
      refine ⟨?_, ?_⟩
      · rw [e]; exact byOK_fits hby hi
      · rw [e]; exact trivial)
    (g := F0 (xm X) pc lsA (.int n :: .int dp :: .ref (oB o + b) :: .int sp :: .ref src :: st.map (trv o))) rfl (by show lsA.size = _; rw [F.ml, q1.sz, q2, hLn]) (rest := st.map (trv o)) rfl (by rw [F.2.1]; exact hd) (by have := F.fr; omega)
    (by show 2 * 0 + ((st.map (trv o)).map fun v => v.category).sum + _ ≤ _; rw [map_cat]; have := F.lo; have e9 : nativeFrameWords "java/lang/System" "arraycopy" 5 ≤ 40 := by decide +kernel
        omega)
  have e1 : copied cs (arrV (oT o 11) (hl h b) (fun j => Value.int (hA h b j))) sp dp n = arrV (oT o 11) (hl h b) (fun j => .int (va_cpy f (hA h b) sp.toNatClampNeg dp.toNatClampNeg n.toNatClampNeg j)) := va_copiedX (fun z => Value.int z) cs (oT o 11) f (hA h b) hs5 h4
  rw [e1] at X' step
  generalize hg : va_cpy f (hA h b) sp.toNatClampNeg dp.toNatClampNeg n.toNatClampNeg = g9 at kk X' step
  have hl1 : oB o + b < H.size := (Array.getElem?_eq_some_iff.mp hc1).1
  have hheap : ((T.setVm vm').setCell (oB o + b) (arrV (oT o 11) (hl h b) (fun j => .int (g9 j)))).heap = H.setIfInBounds (oB o + b) (arrV (oT o 11) (hl h b) (fun j => .int (g9 j))) := by rw [← hT]; rfl
  have oq : ∀ q : Nat, q ≠ oB o + b → (H.setIfInBounds (oB o + b) (arrV (oT o 11) (hl h b) (fun j => .int (g9 j))))[q]? = H[q]? := fun q hq => by simp [Array.getElem?_setIfInBounds, Ne.symm hq]
  have es : (H.setIfInBounds (oB o + b) (arrV (oT o 11) (hl h b) (fun j => Value.int (g9 j))))[oB o + b]? = some (arrV (oT o 11) (hl h b) (fun j => .int (g9 j))) := by simp [Array.getElem?_setIfInBounds, hl1]
  obtain ⟨t, a1, b1⟩ := kk lsA _ _ q1 q2 (q3.setA (a := b) (f := g9) (Or.inr hb) (fun q => by omega) (fun _ => es) (by simp) oq) ⟨by simp; exact q4.1, fun q g1 g2 => by
      rw [oq q (fun e => g2 (by rw [e]; exact oLB _ _))]
      exact q4.2.1 q g1 g2, fun q hq => by
      rcases List.mem_append.mp hq with h | h
      · exact q4.2.2 q h
      · obtain ⟨z, -, hz⟩ := List.mem_map.mp h
        rw [← hz]
        exact oLB _ _⟩ q5 q6 _ hheap X'
  refine ⟨t, ?_, b1⟩
  have a2 := step t a1
  show Steps _ _ _ (T.setTop (F0 (xm X) pc lsA ((.int n :: .int dp :: .ref b :: .int sp :: sv :: st : List Value).map (trv o)))) t
  have e2 : (.int n :: .int dp :: .ref b :: .int sp :: sv :: st : List Value).map (trv o) = .int n :: .int dp :: .ref (oB o + b) :: .int sp :: .ref src :: st.map (trv o) := by
    show _ :: _ :: _ :: _ :: trv o sv :: _ = _
    rw [hsv]
    rfl
  rw [e2]
  exact a2
theorem sd_bcopy (F : FR o X E d n0 s0 nE sE) {i wi t a b : Nat} {host : String} {sp dp n : Int32} (hLn : L = E.2.2.1) (hd : decode E.2.1 pc = .ok (.invokestatic i, 3)) (hL : look (E.2.2.2.2.1, i) mthT = some (9, wi, t, host)) (hd1 : 1 ≤ d) (hr : (st.map fun v => v.category).sum ≤ 8)
    (ha : hk h a = 11) (hb : hk h b = 11) (h1 : ¬ sp < 0) (h2 : ¬ dp < 0) (h3 : ¬ n < 0) (h4 : sp.toNatClampNeg + n.toNatClampNeg ≤ hl h a) (h5 : dp.toNatClampNeg + n.toNatClampNeg ≤ hl h b) (hby : byOK (hA h a) sp.toNatClampNeg n.toNatClampNeg)
    (kk : WG o X L n0 s0 Q (wA h b (va_cpy (hA h a) (hA h b) sp.toNatClampNeg dp.toNatClampNeg n.toNatClampNeg)) (pc + 3) ls st) : WG o X L n0 s0 Q h pc ls (.int n :: .int dp :: .ref b :: .int sp :: .ref a :: st) :=
  sd_bcopy0 F hLn hd hL hd1 hr (sv := .ref a) rfl (n1 := hl h a) (f := hA h a) (fun H locs q3 q4 => ⟨arrV (oT o 11) (hl h a) (fun j => .int (hA h a j)), (q3.2.2.1 a (q3.lt (by omega))).2.2.1 ha, F.wf.2.2.1.1 (hl h a) _, (fun h => by cases h), Nat.le_of_eq (arrV_size _ _ _).symm, fun j hj => arrV_read _ _ hj⟩) hb h1 h2 h3 h4 h5 hby kk
theorem sd_lcopy (F : FR o X E d n0 s0 nE sE) {i wi t k b : Nat} {host : String} {sp dp n : Int32} (hLn : L = E.2.2.1) (hd : decode E.2.1 pc = .ok (.invokestatic i, 3)) (hL : look (E.2.2.2.2.1, i) mthT = some (9, wi, t, host)) (hd1 : 1 ≤ d) (hr : (st.map fun v => v.category).sum ≤ 8)
    (hk17 : k < 17) (hb : hk h b = 11) (h1 : ¬ sp < 0) (h2 : ¬ dp < 0) (h3 : ¬ n < 0) (h4 : sp.toNatClampNeg + n.toNatClampNeg ≤ lenJ.getD k 0) (h5 : dp.toNatClampNeg + n.toNatClampNeg ≤ hl h b) (hby : byOK (fun j => (bytJ.getD k []).getD j 0) sp.toNatClampNeg n.toNatClampNeg)
    (kk : WG o X L n0 s0 Q (wA h b (va_cpy (fun j => (bytJ.getD k []).getD j 0) (hA h b) sp.toNatClampNeg dp.toNatClampNeg n.toNatClampNeg)) (pc + 3) ls st) : WG o X L n0 s0 Q h pc ls (.int n :: .int dp :: .ref b :: .int sp :: litB k :: st) := by
  refine sd_bcopy0 F hLn hd hL hd1 hr (sv := litB k) (litB_tr (by omega)) (n1 := lenJ.getD k 0) (f := fun j => (bytJ.getD k []).getD j 0) (fun H locs q3 q4 => ?_) hb h1 h2 h3 h4 h5 hby kk
  obtain ⟨cell, g1, g2, g3, g4, g5, g6, g7⟩ := ((F.lit k hk17).1 0 (by decide)).2.2.2
  exact ⟨cell, by rw [q4.2.1 _ (Array.getElem?_eq_some_iff.mp g1).1 g7]; exact g1, g2, g3, g4, g6⟩
/-- a row's copy, of ints or bytes -/
theorem aRel.clone {H H1 : Heap} {kd n : Nat} {f : Nat → Int32} (R : aRel o h H) (hkd : kd = 10 ∨ kd = 11) (e1 : H1[H.size]? = some (arrV (oT o kd) n (fun j => .int (f j)))) (z : H1.size = H.size + 1) (oq : ∀ q, q < H.size → H1[q]? = H[q]?) : aRel o (wA (alA h kd n) (hN h) f) H1 := by
  rw [R.1] at e1
  refine R.push (n := 1) rfl (fun i hi => by show hk (alA h kd n) i = _; rw [hk_alA, if_neg (by omega)]) (fun i hi => by show hl (alA h kd n) i = _; rw [hl_alA, if_neg (by omega)]) rfl z oq (fun _ _ _ => rfl) (fun i hi => (if_neg (show ¬ i = h.1 from Nat.ne_of_lt hi)).trans (if_neg (show ¬ i = h.1 from Nat.ne_of_lt hi))) (fun i hi => if_neg (show ¬ i = h.1 from Nat.ne_of_lt hi)) (fun i hi => if_neg (show ¬ i = h.1 from Nat.ne_of_lt hi)) (fun i hi hi2 => ?_)
  have e : i = hN h := by omega
  subst e
  have ek : hk (wA (alA h kd n) (hN h) f) (hN h) = kd := by show hk (alA h kd n) (hN h) = kd; rw [hk_alA, if_pos rfl]
  have el : hl (wA (alA h kd n) (hN h) f) (hN h) = n := by show hl (alA h kd n) (hN h) = n; rw [hl_alA, if_pos rfl]
  have eA : hA (wA (alA h kd n) (hN h) f) (hN h) = f := if_pos rfl
  rw [aAt, ek, el, eA]
  refine ⟨fun ci h1 h2 => by have := kc_rng ci; omega, fun q => ?_, fun q => ?_, fun q => by omega, fun k2 g1 g2 q => by omega⟩
  · rw [← q]; exact e1
  · rw [← q]; exact e1
theorem sd_clone (F : FR o X E d n0 s0 nE sE) {i wi t a kd kp : Nat} {host nm : String} {ty : FieldType} (hLn : L = E.2.2.1) (hd : decode E.2.1 pc = .ok (.invokevirtual i, 3)) (hL : look (E.2.2.2.2.1, i) mthT = some (kp, wi, t, host)) (hd1 : 1 ≤ d) (hr : (st.map fun v => v.category).sum ≤ 8)
    (hkp : (kp = 15 ∧ kd = 10 ∧ nm = "[I" ∧ ty = .int) ∨ (kp = 16 ∧ kd = 11 ∧ nm = "[B" ∧ ty = .byte)) (ha : hk h a = kd) (hby : kd = 11 → byOK (hA h a) 0 (hl h a)) (r1 : oO o + hN h + 1 ≤ nE) (r2 : hS h + hl h a ≤ sE)
    (kk : WG o X L n0 s0 Q (wA (alA h kd (hl h a)) (hN h) (hA h a)) (pc + 3) ls (.ref (hN h) :: st)) : WG o X L n0 s0 Q h pc ls (.ref a :: st) := by
  intro lsA H locs q1 q2 q3 q4 q5 q6 T hT Xs
  have hkd : kd = 10 ∨ kd = 11 := by rcases hkp with ⟨-, h, -⟩ | ⟨-, h, -⟩ <;> omega
  have hw : lw_tbl[wi]? = some (.methodLink (cR E.2.2.2.2.1) i ⟨nm, "clone", "()Ljava/lang/Object;"⟩) := by
    have h9 := mthT_w hL
    rcases hkp with ⟨rfl, rfl, rfl, rfl⟩ | ⟨rfl, rfl, rfl, rfl⟩ <;> exact h9
  have w1 : (Cond.sameMethod nm "java/lang/Object" "clone" "()Ljava/lang/Object;").before (xa X) (xs X) = true := by
    rcases hkp with ⟨rfl, rfl, rfl, rfl⟩ | ⟨rfl, rfl, rfl, rfl⟩ <;> exact F.hts _ (by decide +kernel)
  have w2 : (Cond.selects nm ⟨nm, "clone", "()Ljava/lang/Object;"⟩ ⟨"java/lang/Object", "clone", "()Ljava/lang/Object;"⟩).before (xa X) (xs X) = true := by
    rcases hkp with ⟨rfl, rfl, rfl, rfl⟩ | ⟨rfl, rfl, rfl, rfl⟩ <;> exact F.hts _ (by decide +kernel)
  have w3 : va_Nw (.castable nm "java/lang/Cloneable") (xs X) := by
    rcases hkp with ⟨rfl, rfl, rfl, rfl⟩ | ⟨rfl, rfl, rfl, rfl⟩ <;> exact F.wf.2.2.2.2.2.2.2.2.2.2.2.2.2.2.1 _ (by decide +kernel)
  have w4 : ArrOfT (xs X) (oT o kd) ty ∧ (xs X).vm.findClass nm = some (oT o kd) := by
    rcases hkp with ⟨rfl, rfl, rfl, rfl⟩ | ⟨rfl, rfl, rfl, rfl⟩
    · exact ⟨F.wf.2.1.1, F.wf.2.1.2⟩
    · exact ⟨F.wf.2.2.1.1, F.wf.2.2.1.2⟩
  have hc0 : H[oB o + a]? = some (arrV (oT o kd) (hl h a) (fun j => .int (hA h a j))) := by
    rcases hkd with e | e
    · rw [e]; exact (q3.2.2.1 a (q3.lt (by omega))).2.1 (by omega)
    · rw [e]; exact (q3.2.2.1 a (q3.lt (by omega))).2.2.1 (by omega)
  have hfit : ∀ (i : Nat) (v : Value), (arrV (oT o kd) (hl h a) (fun j => Value.int (hA h a j))).slots[i]? = some v → fits ty v = true := by
    intro i v hv
    have hi : i < hl h a := by
      have := (Array.getElem?_eq_some_iff.mp hv).1
      rwa [arrV_size] at this
    rw [arrV_read _ _ hi] at hv
    cases hv
    rcases hkp with ⟨rfl, rfl, rfl, rfl⟩ | ⟨rfl, rfl, rfl, rfl⟩
    · rfl
    · have := byOK_fits (hby rfl) hi
      rwa [Nat.zero_add] at this
  obtain ⟨c0, t0', f1, f2, f3⟩ := Cond.castable_spec (va_Nw.use (A := xa X) rfl w3)
  cases w4.2.symm.trans f1
  have hcellT : T.heap[oB o + a]? = some (arrV (oT o kd) (hl h a) (fun j => .int (hA h a j))) := by rw [hT]; exact hc0
  obtain ⟨-, kA, hkA, comp, hkind⟩ := State.isArrayOf_alike Xs.warmed.alike (w4.1 0 (fun _ => .null))
  obtain ⟨-, kS, hkS, compS, hkindS⟩ := w4.1 0 (fun _ => .null)
  obtain ⟨vm', X', step⟩ := Xs.cloneArray F.1 F.own (F.w hw rfl) w1 (F.hts _ (by decide +kernel)) (F.hts _ (by decide +kernel)) w2 (a := oB o + a) (cell := arrV (oT o kd) (hl h a) (fun j => .int (hA h a j))) hcellT (fun k h => by cases h) (fun h => by cases h) w4.2 f2 f3
    (fun i v hv => by
      have hk' : T.vm.classes[oT o kd]? = some kA := hkA
      show T.fitsSlot (oT o kd) .none i v = true
      simpa [State.fitsSlot, State.slotType?, hk', hkind] using hfit i v hv)
    (g := F0 (xm X) pc lsA (.ref (oB o + a) :: st.map (trv o))) rfl (by show lsA.size = _; rw [F.ml, q1.sz, q2, hLn]) rfl (by rw [F.2.1]; exact hd) (by have := F.fr; omega) (by show 2 * 0 + ((st.map (trv o)).map fun v => v.category).sum + 14 ≤ _; rw [map_cat]; have := F.lo; omega) (by have := F.ce; omega) (by rw [arrV_size]; have := F.sl; omega) (hloader := Vm.clonesLoader_of_array hkS hkindS)
  have hcellE : ({ cls := (arrV (oT o kd) (hl h a) (fun j => Value.int (hA h a j))).cls, slots := (arrV (oT o kd) (hl h a) (fun j => Value.int (hA h a j))).slots } : Cell) = arrV (oT o kd) (hl h a) (fun j => .int (hA h a j)) := rfl
  rw [hcellE, arrV_size] at X'
  generalize hH1 : H.push (arrV (oT o kd) (hl h a) (fun j => Value.int (hA h a j))) = H1
  have z1 : H1.size = H.size + 1 := by rw [← hH1, Array.size_push]
  have e1 : H1[H.size]? = some (arrV (oT o kd) (hl h a) (fun j => .int (hA h a j))) := by rw [← hH1, Array.getElem?_push_size]
  have o1 : ∀ q : Nat, q < H.size → H1[q]? = H[q]? := fun q hq => by rw [← hH1, Array.getElem?_push, if_neg (Nat.ne_of_lt hq)]
  have kk := kk lsA H1 locs q1 q2 (q3.clone hkd e1 z1 o1) ⟨Nat.le_trans q4.1 (by omega), fun q h1 h2 => (o1 q (Nat.lt_of_lt_of_le h1 q4.1)).trans (q4.2.1 q h1 h2), q4.2.2⟩ (by show n0 ≤ oO o + (hN h + 1); omega) (by show s0 ≤ hS h + _; omega)
  rw [show oO o + hN (wA (alA h kd (hl h a)) (hN h) (hA h a)) - n0 = oO o + hN h - n0 + 1 from (by show oO o + (hN h + 1) - n0 = _; omega), show hS (wA (alA h kd (hl h a)) (hN h) (hA h a)) - s0 = hS h - s0 + hl h a from (by show hS h + _ - s0 = _; omega)] at kk
  obtain ⟨t, a1, b1⟩ := kk ((T.setVm vm').pushCell (arrV (oT o kd) (hl h a) (fun j => .int (hA h a j)))) (by rw [← hH1, ← hT]; rfl) X'
  refine ⟨t, step t ?_, b1⟩
  rw [hcellE, show T.heap.size = oB o + hN h by rw [hT]; exact q3.1]
  exact a1
theorem sd_cast (F : FR o X E d n0 s0 nE sE) {i wi a kd : Nat} (hd : decode E.2.1 pc = .ok (.checkcast i, 3)) (hL : look (E.2.2.2.2.1, i) ckT = some (wi, kd)) (ha : hk h a = kd) (kk : WG o X L n0 s0 Q h (pc + 3) ls (.ref a :: st)) : WG o X L n0 s0 Q h pc ls (.ref a :: st) := by
  intro lsA H locs q1 q2 q3 q4 q5 q6 T hT Xs
  have ok := all_of ckT_ok (look_mem hL)
  simp only [Bool.and_eq_true, Bool.or_eq_true, decide_eq_true_eq] at ok
  obtain ⟨w1, w2⟩ := ok
  have hc0 : H[oB o + a]? = some (arrV (oT o kd) (hl h a) (fun j => .int (hA h a j))) := by
    rcases w2 with e | e
    · rw [e]; exact (q3.2.2.1 a (q3.lt (by omega))).2.1 (by omega)
    · rw [e]; exact (q3.2.2.1 a (q3.lt (by omega))).2.2.1 (by omega)
  have hnm : (xs X).vm.findClass (if kd = 10 then "[I" else "[B") = some (oT o kd) := by
    rcases w2 with e | e
    · subst e; exact F.wf.2.1.2
    · subst e; exact F.wf.2.2.1.2
  obtain ⟨vm', X', step⟩ := Xs.checkcastYes F.1 F.own (F.w w1 rfl) (by rw [hT]; exact hc0) rfl hnm (va_asg _ _) (g := F0 (xm X) pc lsA (.ref (oB o + a) :: st.map (trv o))) rfl rfl (by rw [F.2.1]; exact hd)
  obtain ⟨t, a1, b1⟩ := kk lsA H locs q1 q2 q3 q4 q5 q6 (T.setVm vm') hT X'
  exact ⟨t, step t a1, b1⟩
/-- new int[n][] -/
theorem sd_anewI (F : FR o X E d n0 s0 nE sE) {i wi kd : Nat} {n : Int32} (hd : decode E.2.1 pc = .ok (.anewarray i, 3)) (hL : look (E.2.2.2.2.1, i) ckT = some (wi, kd)) (h10 : kd = 10) (hn : ¬ n < 0) (hn2 : n.toNatClampNeg ≤ 60000000) (r1 : oO o + hN h + 1 ≤ nE) (r2 : hS h + n.toNatClampNeg ≤ sE)
    (kk : WG o X L n0 s0 Q (alA h 14 n.toNatClampNeg) (pc + 3) ls (.ref (hN h) :: st)) : WG o X L n0 s0 Q h pc ls (.int n :: st) := by
  intro lsA H locs q1 q2 q3 q4 q5 q6
  have ok := all_of ckT_ok (look_mem hL)
  simp only [Bool.and_eq_true, Bool.or_eq_true, decide_eq_true_eq] at ok
  obtain ⟨w1, -⟩ := ok
  rw [if_pos h10] at w1
  refine W.anewA (t := .int) F.1 F.2.1 F.own (F.w w1 rfl) (F.wf.2.2.2.2.2.2.2.2.2.2.2.2.2.2.2.2.2.1) rfl hd rfl hn (by omega) (by have := F.ce; omega) (by have := F.sl; omega) fun cA kA comp f1 f2 f3 f4 => ?_
  have hcA : cA = oT o 14 := by
    have hra : va_RA (xs X) (oT o 14) (.array .int) := F.wf.2.2.2.2.2.1.2
    exact Option.some.inj (f1.symm.trans hra)
  subst hcA
  exact new_ref F (by omega) (by omega) q1 q2 q3 q4 q5 q6 rfl kk
/-- a row of ints into a row of rows -/
theorem sd_aastoreI (F : FR o X E d n0 s0 nE sE) {a v : Nat} {i : Int32} (hd : decode E.2.1 pc = .ok (.aastore, 1)) (ha : hk h a = 14) (hv : hk h v = 10) (hin : vp_in i (hl h a)) (kk : WG o X L n0 s0 Q (wR h a (va_up (hR h a) i.toNatClampNeg (some v))) (pc + 1) ls st) : WG o X L n0 s0 Q h pc ls (.ref v :: .int i :: .ref a :: st) := by
  intro lsA H locs q1 q2 q3 q4 q5 q6
  have hlt := vp_not hin
  have h0 : ¬ i < 0 := fun q => hin (Or.inl q)
  have hc := (q3.2.2.1 a (q3.lt (by omega))).2.2.2.2 14 (by omega) (by omega) ha
  have hcv := (q3.2.2.1 v (q3.lt (by omega))).2.1 hv
  obtain ⟨comp, c, k, e1, e2, e3, e4, e5⟩ := aoA_spec (F.wf.2.2.2.2.2.2.2.2.2.2.2.2.2.2.2.2.2.1)
  have hcomp : comp = oT o 10 := Option.some.inj (e1.symm.trans F.wf.2.1.2)
  have hcc : c = oT o 14 := Option.some.inj (e5.symm.trans F.wf.2.2.2.2.2.1.2)
  subst hcomp
  subst hcc
  obtain ⟨-, kS, hkS, compS, hkindS⟩ := F.wf.2.1.1 0 (fun _ => .null)
  refine W.aast F.1 F.2.1 hc (fun q h => by cases h) (fun h => by cases h) e3 e4 rfl hkS ⟨h0, by rw [arrV_size]; exact hlt⟩ hcv (fun q h => by cases h) hkS (va_asg _ _) rfl rfl hd fun H1 e z oq => ?_
  refine kk lsA H1 _ q1 q2 (q3.setR (by omega) (by omega) ha ?_ z oq) (q4.put z oq (oLB _ _)) q5 q6
  rw [e, arrV_store]
  exact congrArg (fun f => some (arrV (oT o 14) (hl h a) f)) (up_V (x := some v))
end P4
