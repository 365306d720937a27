/-! THE TOP: the world at the start -/
theorem no_tr {l : Launch} (h : l.flags = flags0) : l.stackTraces = false := by
  unfold Launch.stackTraces
  rw [h]
  decide +kernel
theorem rowO {s : State} {C : String} (h : va_AO C s) : ∃ c, ArrOfT s c (.object C) ∧ va_RA s c (.object C) := by
  obtain ⟨comp, c, k, h1, h2, h3, h4, h5⟩ := Cond.arrayOver_spec h
  exact ⟨c, fun n z => ⟨fun k h => (by cases h), k, h3, comp, h4⟩, k, comp, h3, h4, h1, h5⟩
theorem wf_start {s : State} {b L : Nat} {xs : Nat → Int32} (hts : ∀ w ∈ lw_tbl, w.before #[Value.ref b] s = true) (hX : va_X b L xs s s.heap) (hbl : b < s.heap.size) (hgv : (Jvm.Cond.and given_1 narrow_1).before #[Value.ref b] s = true) :
    ∃ o : OM, oL o = s.heap.size ∧ oO o = 0 ∧ oS o = b ∧ oX o = (L, xs) ∧ WF o s s.heap := by
  have hs : ∀ w ∈ flatN, w.before #[Value.ref b] s = true := flat_of_before _ hgv
  have hA : ∀ a : Nat, a < s.heap.size → ¬ (fun q => s.heap.size ≤ q) a := fun a h => Nat.not_le.mpr h
  have htg : ∀ w ∈ lwG, w.before #[Value.ref b] s = true := fun w hw => hts w (List.mem_filter.mp hw).1
  have hD0 : ∀ cj : Nat, ∃ q : ClassId × (Nat → Nat), cj < 12 → u_Kn s (cR cj) (cT cj) (cNf cj) q.1 q.2 := by
    intro cj
    by_cases h : cj < 12
    · obtain ⟨cC, iS, hk⟩ := u_known (T := cT cj) (N := cNf cj) htg (clsF cj h).2.1 (htg _ (clsN cj h))
      exact ⟨(cC, iS), fun _ => hk⟩
    · exact ⟨(0, fun _ => 0), fun q => absurd q h⟩
  obtain ⟨f, hf⟩ := Classical.axiomOfChoice hD0
  have hI : ∀ ty : FieldType, Cond.arrayClass ty ∈ lw_tbl → (∀ C, ty ≠ .object C) → ty.isReference = false → ∃ c, ArrOfT s c ty ∧ va_RA s c ty := by
    intro ty hm hno _
    obtain ⟨c, k, comp, h1, h2, h3⟩ := Cond.arrayClass_spec (hts _ hm)
    refine ⟨c, fun n z => ⟨fun k h => (by cases h), k, h2, comp, h3⟩, ?_⟩
    cases ty <;> first | exact h1 | exact absurd rfl (hno _)
  obtain ⟨cI, wI⟩ := hI .int (by decide +kernel) (fun _ h => by cases h) rfl
  obtain ⟨cBy, wB⟩ := hI .byte (by decide +kernel) (fun _ h => by cases h) rfl
  obtain ⟨cJ, wJ9⟩ := hI .long (by decide +kernel) (fun _ h => by cases h) rfl
  have hao : va_AO (cR 2) s := va_AO.of (hts _ (by decide +kernel))
  have hao9 : va_AO (cR 9) s := va_AO.of (hts _ (by decide +kernel))
  have hao6 : va_AO (cR 6) s := va_AO.of (hts _ (by decide +kernel))
  have hao2 : aoA .int s := hts (.arrayOver (.array .int)) (by decide +kernel)
  obtain ⟨c13, w13⟩ := rowO hao
  obtain ⟨c15, w15⟩ := rowO hao9
  obtain ⟨c16, w16⟩ := rowO hao6
  obtain ⟨c14, w14⟩ : ∃ c, ArrOfT s c (.array .int) ∧ va_RA s c (.array .int) := by
    obtain ⟨comp, c, k, h1, h2, h3, h4, h5⟩ := aoA_spec hao2
    exact ⟨c, fun n z => ⟨fun k h => (by cases h), k, h3, comp, h4⟩, h5⟩
  have hV : ∀ i : Nat, ∃ q : Nat × Nat, i < 17 → vk_S 1 [lenJ.getD i 0] [bytJ.getD i []] (fun _ => q.1) (fun _ => q.2) (fun q => s.heap.size ≤ q) s s.heap ∧ (Term.string (tmS i).1 (tmS i).2).eval #[Value.ref b] s none [] s = some (.ref q.1) := by
    intro i
    by_cases h : i < 17
    · obtain ⟨adK, adV, hvk, hev⟩ := vk_Sof (N := 1) (tm := fun _ => Term.string (tmS i).1 (tmS i).2) (len := [lenJ.getD i 0]) (byt := [bytJ.getD i []]) (A := fun q => s.heap.size ≤ q) (fun k hk => by
          obtain rfl : k = 0 := by omega
          show lenJ.getD i 0 < 2 ^ 31
          have := (lenJ_le i h).1
          omega) (fun k hk => hs _ (lit_ex i (by omega))) (fun k hk => hs _ (lit_co i h)) (fun k hk => hs _ (lit_ar i h)) (fun k hk => by
          obtain rfl : k = 0 := by omega
          exact hs _ (lit_le i h)) (fun k hk j hj => by
          obtain rfl : k = 0 := by omega
          exact hs _ (lit_el i h j hj)) (fun k j hk hj hkj => absurd (show k = j by omega) hkj) hA
      refine ⟨(adK 0, adV 0), fun _ => ⟨⟨fun k hk => ?_, fun k j hk hj _ => by omega⟩, hev 0 (by omega)⟩⟩
      obtain rfl : k = 0 := by omega
      exact hvk.1 0 (by omega)
    · exact ⟨(0, 0), fun q => absurd q h⟩
  obtain ⟨gv, hgv2⟩ := Classical.axiomOfChoice hV
  have hM : ∀ i : Nat, ∃ a : Nat, i < 25 → (Term.string (tmS i).1 (tmS i).2).eval #[Value.ref b] s none [] s = some (.ref a) := by
    intro i
    by_cases h : i < 25
    · obtain ⟨a, c, cell, k, h1, -⟩ := Cond.exactly_spec (hs _ (lit_ex i h))
      exact ⟨a, fun _ => h1⟩
    · exact ⟨0, fun q => absurd q h⟩
  obtain ⟨g, hg⟩ := Classical.axiomOfChoice hM
  have hgK : ∀ i : Nat, i < 17 → (gv i).1 = g i := fun i hi => by
    have h1 := (hgv2 i hi).2.symm.trans (hg i (by omega))
    exact Value.ref.inj (Option.some.inj h1)
  obtain ⟨r, hr⟩ := isRef_eval (hs (.isRef (.static "jdk/internal/util/Preconditions" "SIOOBE_FORMATTER" "Ljava/util/function/BiFunction;")) (by decide +kernel))
  obtain ⟨t0, ht0, hT0⟩ := va_Tof (tm := tVAR) (ty := .object "java/lang/String") (N := 3) (f := fun j => .ref (g (vrN j))) (A := fun q => s.heap.size ≤ q) (by omega) (hs _ var_ar) (va_eqt (hs _ var_le)) (fun j hj => eq_refs (hs _ (var_el j hj)) (eq_terms (hs _ (var_st j hj).1) (hg _ (by have := (var_st j hj).2; omega)))) hA
  obtain ⟨t1, ht1, hT1⟩ := va_Tof (tm := tONE) (ty := .byte) (N := 100) (f := fun j => .int (nI (48 + j % 10))) (A := fun q => s.heap.size ≤ q) (by omega) (hs _ one_ar.1) (va_eqt (hs _ one_le.1)) (fun j hj => va_eqt (hs _ (one_el j hj).1)) hA
  obtain ⟨t2, ht2, hT2⟩ := va_Tof (tm := tTEN) (ty := .byte) (N := 100) (f := fun j => .int (nI (48 + j / 10))) (A := fun q => s.heap.size ≤ q) (by omega) (hs _ one_ar.2) (va_eqt (hs _ one_le.2)) (fun j hj => va_eqt (hs _ (one_el j hj).2)) hA
  refine ⟨((fun c => (f c).1, fun c => (f c).2), fun k => if k = 10 then cI else if k = 11 then cBy else if k = 12 then cJ else if k = 13 then c13 else if k = 14 then c14 else if k = 15 then c15 else c16, s.heap.size, b, g, fun i => (gv i).2, (L, xs), r, 0, fun k => if k = 0 then t0 else if k = 1 then t1 else t2), rfl, rfl, rfl, rfl, ?_⟩
  refine ⟨⟨fun c q hq => ?_, fun k q h => by simp at h⟩, wI, wB, wJ9, w13, w14, hX, hbl, fun q hq => ?_, fun i hi => ?_, ?_, ?_, ?_, ?_, fun w hw => ?_, fun i j hi hj hij => va_Nc.of (hs _ (exc_nc i hi j hj hij)), hao, hao2, w15, w16, hao9, hao6, ?_, hT0, ?_, hT1, ?_, hT2⟩
  · by_cases h : c < 12
    · rw [(clsF c h).1] at hq
      cases hq
      exact hf c h
    · have : vwCl[c]? = none := by
        rw [List.getElem?_eq_none_iff]
        show 12 ≤ c
        omega
      rw [this] at hq
      cases hq
  · obtain ⟨a1, a2, a3⟩ := lit_st q hq
    refine vk_R.of (hts _ a2) ?_
    have h1 := hg q.2.2 a1
    rcases a3 with a3 | a3
    · rw [← a3] at h1
      exact h1
    · exact eq_terms (hs _ a3) h1
  · have := (hgv2 i hi).1
    rw [hgK i hi] at this
    exact this
  · exact va_Zof (hts _ (by decide +kernel)) (hts _ (by decide +kernel)) (va_eqi (hs _ (by decide +kernel))) hA
  · exact va_Zof (hts _ (by decide +kernel)) (hts _ (by decide +kernel)) hr hA
  · exact vx_Zqof (hts _ (by decide +kernel)) (hts _ (by decide +kernel)) (hs _ (by decide +kernel)) hA
  · exact vx_Zqof (hts _ (by decide +kernel)) (hts _ (by decide +kernel)) (hs _ (by decide +kernel)) hA
  · obtain ⟨h1, h2⟩ := List.mem_filter.mp hw
    exact va_Nw.of (ngK_tab h2) (hts w h1)
  · exact va_Zof (hts _ (by decide +kernel)) (hts _ (by decide +kernel)) ht0 hA
  · exact va_Zof (hts _ (by decide +kernel)) (hts _ (by decide +kernel)) ht1 hA
  · exact va_Zof (hts _ (by decide +kernel)) (hts _ (by decide +kernel)) ht2 hA
