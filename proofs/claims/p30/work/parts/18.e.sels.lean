/-! THE TOP: what a string builder selects of the private methods above it -/
theorem am_selsub {C : String} {n : Nat} {y z : MethodName} {s : State} {args : Array Value} (hy : y.cls ≠ "java/lang/invoke/MethodHandle" ∧ y.cls ≠ "java/lang/invoke/VarHandle") (hins : (Cond.instantiable C n).before args s = true) (hpriv : (Cond.privateMethod y).before args s = true) (hinst : (Cond.instanceMethod y).before args s = true) (hz : (Cond.selects C z z).before args s = true) (hzc : z.cls = y.cls) : (Cond.selects C y y).before args s = true := by
  obtain ⟨c, k, hc, hk, -⟩ := Cond.instantiable_spec hins
  obtain ⟨mk, methM, hnamed, hmethM, -, -⟩ := Cond.instanceMethod_spec hinst
  have hfound : s.methodFound? y.cls y.name y.desc = some mk := State.methodFound?_of_named hnamed hy
  obtain ⟨c2, r2, m2, q1, q2, q3, q4, kP, hkP, hkPi⟩ := Cond.selects_spec hz
  have e1 := findClass_of_methodNamed hnamed
  have e2 := findClass_of_methodNamed q3
  rw [hzc] at e2
  have e3 : mk.cls = m2.cls := Option.some.inj (e1.symm.trans e2)
  have hsel : selectMethod {} s.vm c mk = .method mk := selectMethod_private hmethM (Cond.privateMethod_at hpriv mk methM hnamed hmethM)
  rw [← e3] at hkP
  simp only [Cond.before, Cond.holds, Cond.value, hc, hfound, hnamed, hsel, hkP]
  simp; exact hkPi
theorem am_wI : Cond.instantiable "java/lang/StringBuilder" 4 ∈ tables_1 := List.mem_of_getElem? (i := 989) (by decide +kernel)
theorem am_wS : Cond.selects "java/lang/StringBuilder" ⟨"java/lang/AbstractStringBuilder", "isLatin1", "()Z"⟩ ⟨"java/lang/AbstractStringBuilder", "isLatin1", "()Z"⟩ ∈ tables_1 := List.mem_of_getElem? (i := 1060) (by decide +kernel)
theorem am_w0 : Cond.privateMethod ⟨"java/lang/AbstractStringBuilder", "ensureCapacityInternal", "(I)V"⟩ ∈ tables_1 ∧ Cond.instanceMethod ⟨"java/lang/AbstractStringBuilder", "ensureCapacityInternal", "(I)V"⟩ ∈ tables_1 := ⟨List.mem_of_getElem? (i := 1031) (by decide +kernel), List.mem_of_getElem? (i := 1032) (by decide +kernel)⟩
theorem am_w1 : Cond.privateMethod ⟨"java/lang/AbstractStringBuilder", "newCapacity", "(I)I"⟩ ∈ tables_1 ∧ Cond.instanceMethod ⟨"java/lang/AbstractStringBuilder", "newCapacity", "(I)I"⟩ ∈ tables_1 := ⟨List.mem_of_getElem? (i := 1035) (by decide +kernel), List.mem_of_getElem? (i := 1036) (by decide +kernel)⟩
theorem am_w2 : Cond.privateMethod ⟨"java/lang/AbstractStringBuilder", "inflateIfNeededFor", "(Ljava/lang/String;)V"⟩ ∈ tables_1 ∧ Cond.instanceMethod ⟨"java/lang/AbstractStringBuilder", "inflateIfNeededFor", "(Ljava/lang/String;)V"⟩ ∈ tables_1 := ⟨List.mem_of_getElem? (i := 1083) (by decide +kernel), List.mem_of_getElem? (i := 1084) (by decide +kernel)⟩
theorem am_w3 : Cond.privateMethod ⟨"java/lang/AbstractStringBuilder", "putStringAt", "(ILjava/lang/String;)V"⟩ ∈ tables_1 ∧ Cond.instanceMethod ⟨"java/lang/AbstractStringBuilder", "putStringAt", "(ILjava/lang/String;)V"⟩ ∈ tables_1 := ⟨List.mem_of_getElem? (i := 1079) (by decide +kernel), List.mem_of_getElem? (i := 1080) (by decide +kernel)⟩
theorem am_sels_ok {s : State} {args : Array Value} (h : ∀ w ∈ tables_1, w.before args s = true) : ∀ w ∈ am_sels, w.before args s = true := by
  intro w hw
  obtain ⟨y, hy, rfl⟩ := List.mem_map.mp hw
  unfold am_privs at hy
  simp only [List.mem_cons, List.not_mem_nil, or_false] at hy
  rcases hy with rfl | rfl | rfl | rfl
  · exact am_selsub ⟨by decide +kernel, by decide +kernel⟩ (h _ am_wI) (h _ am_w0.1) (h _ am_w0.2) (h _ am_wS) rfl
  · exact am_selsub ⟨by decide +kernel, by decide +kernel⟩ (h _ am_wI) (h _ am_w1.1) (h _ am_w1.2) (h _ am_wS) rfl
  · exact am_selsub ⟨by decide +kernel, by decide +kernel⟩ (h _ am_wI) (h _ am_w2.1) (h _ am_w2.2) (h _ am_wS) rfl
  · exact am_selsub ⟨by decide +kernel, by decide +kernel⟩ (h _ am_wI) (h _ am_w3.1) (h _ am_w3.2) (h _ am_wS) rfl
theorem am_hts {s : State} {args : Array Value} (h : ∀ w ∈ tables_1, w.before args s = true) : ∀ w ∈ lw_tbl, w.before args s = true := by
  have h2 : ∀ w ∈ tables_1 ++ am_sels, w.before args s = true := fun w hw => by
    rcases List.mem_append.mp hw with hw | hw
    · exact h w hw
    · exact am_sels_ok h w hw
  exact k2_hts_sels lw_privs h2 (fun q hq => by
    obtain ⟨a, b, c, d⟩ := lw_privs_ok q hq
    exact ⟨a, List.mem_append_left _ b, List.mem_append_left _ c, List.mem_append_left _ d⟩)
