/-! SOUNDNESS, part 7: calls and the whole run -/
theorem zip_get {α β : Type} {l : List α} {m : List β} {t : Nat} {a : α} {b : β} (h : l[t]? = some a) (h2 : m[t]? = some b) : (a, b) ∈ l.zip m := by
  refine List.mem_of_getElem? (i := t) ?_
  rw [List.getElem?_zip_eq_some]
  exact ⟨h, h2⟩
theorem codeW_good (e : MI) : goodWord (codeW e) = true := by
  unfold codeW
  split <;> rfl
theorem getD_ne {α : Type} {l : List α} {t : Nat} {d : α} (h : l.getD t d ≠ d) : l[t]? = some (l.getD t d) := by
  rw [List.getD_eq_getElem?_getD] at h ⊢
  cases hh : l[t]? with
  | none => rw [hh] at h; exact absurd rfl h
  | some x => rfl
/-- the callee's facts off the tables -/
theorem tgt_facts {kd t : Nat} {Et : MI} (hm : mtab[t]? = some Et) (h : tgtOK kd t = true) : codeW Et ∈ lwG ∧ (∃ sig, parseMethodDescriptor Et.1.desc = some sig ∧ npar Et = sig.parameters.length) ∧ (kd = 0 ∨ Et.2.2.2.2.2 = []) ∧ Et.1.cls = cR Et.2.2.2.2.1 ∧ plainName Et.1.cls = true ∧ (Et.1.cls ≠ "java/lang/invoke/MethodHandle" ∧ Et.1.cls ≠ "java/lang/invoke/VarHandle") ∧ Et.2.2.1 ≤ 40 ∧
    (kd ≤ 1 → Cond.static Et.1 ∈ lwG) ∧ (1 < kd → Cond.instanceMethod Et.1 ∈ lwG) ∧ (1 < kd → kd ≤ 3 → Cond.selects Et.1.cls Et.1 Et.1 ∈ lwG) ∧ (3 < kd → Et.1.name = "<init>") := by
  have hmem := List.mem_of_getElem? hm
  have n1 := all_of mtab_name hmem
  simp only [Bool.and_eq_true, decide_eq_true_eq] at n1
  have n2 := all_of mtab_len hmem
  simp only [decide_eq_true_eq] at n2
  unfold tgtOK at h
  rw [hm] at h
  simp only [Bool.and_eq_true, Bool.or_eq_true, bne_iff_ne, ne_eq, decide_eq_true_eq] at h
  obtain ⟨h1, h2, h3, h4⟩ := h
  have c1 : codeW Et ∈ lwG := by
    have g := zip_get hm (getD_ne h1)
    have g2 := all_of mtab_code g
    simp only [Bool.or_eq_true, beq_iff_eq] at g2
    rcases g2 with g2 | g2
    · exact absurd g2 h1
    · exact mem_lwG (isCode_eq g2) (codeW_good Et)
  obtain ⟨sig, hsig⟩ := Option.isSome_iff_exists.mp h2
  have wx : ∀ {a b : Prop} , True := fun {_ _} => trivial
  have getm : (mwx.getD t (9999, 9999, 9999)) ≠ (9999, 9999, 9999) → (Et, mwx.getD t (9999, 9999, 9999)) ∈ mtab.zip mwx := fun q => zip_get hm (getD_ne q)
  have okx : mwx.getD t (9999, 9999, 9999) ≠ (9999, 9999, 9999) → ((mwx.getD t (9999, 9999, 9999)).1 = 9999 ∨ lw_tbl[(mwx.getD t (9999, 9999, 9999)).1]? = some (.static Et.1)) ∧ ((mwx.getD t (9999, 9999, 9999)).2.1 = 9999 ∨ lw_tbl[(mwx.getD t (9999, 9999, 9999)).2.1]? = some (.instanceMethod Et.1)) ∧ ((mwx.getD t (9999, 9999, 9999)).2.2 = 9999 ∨ lw_tbl[(mwx.getD t (9999, 9999, 9999)).2.2]? = some (.selects Et.1.cls Et.1 Et.1)) := by
    intro q
    have g := all_of mwx_ok (getm q)
    simpa only [Bool.and_eq_true, Bool.or_eq_true, beq_iff_eq, decide_eq_true_eq] using g
  generalize mwx.getD t (9999, 9999, 9999) = w at h4 okx getm
  refine ⟨c1, ⟨sig, hsig, by unfold npar; rw [hsig]; rfl⟩, h3, n1.2.1, n1.1, n1.2.2, n2, fun hk => ?_, fun hk => ?_, fun hk hk2 => ?_, fun hk => ?_⟩
  · rw [if_pos hk] at h4
    have hw : w.1 ≠ 9999 := by simpa using h4
    exact mem_lwG (((okx (fun q => hw (by rw [q]))).1).resolve_left hw) rfl
  · rw [if_neg (by omega)] at h4
    by_cases hk2 : kd ≤ 3
    · rw [if_pos hk2] at h4
      simp only [Bool.and_eq_true, bne_iff_ne, ne_eq] at h4
      exact mem_lwG (((okx (fun q => h4.1 (by rw [q]))).2.1).resolve_left h4.1) rfl
    · rw [if_neg hk2] at h4
      simp only [Bool.and_eq_true, bne_iff_ne, ne_eq] at h4
      exact mem_lwG (((okx (fun q => h4.1 (by rw [q]))).2.1).resolve_left h4.1) rfl
  · rw [if_neg (by omega), if_pos hk2] at h4
    simp only [Bool.and_eq_true, bne_iff_ne, ne_eq] at h4
    exact mem_lwG (((okx (fun q => h4.1 (by rw [q]))).2.2).resolve_left h4.2) rfl
  · rw [if_neg (by omega), if_neg (by omega)] at h4
    simp only [Bool.and_eq_true, decide_eq_true_eq] at h4
    exact h4.2
theorem mtab_init_all : mtab.all (fun e => decide (e.1.name ≠ "<init>") || decide (e.2.2.2.1 = none)) = true := by decide +kernel
theorem mtab_init {t : Nat} {Et : MI} (hm : mtab[t]? = some Et) (hn : Et.1.name = "<init>") : Et.2.2.2.1 = none := by
  have g := all_of mtab_init_all (List.mem_of_getElem? hm)
  simp only [Bool.or_eq_true, decide_eq_true_eq] at g
  exact g.resolve_left (fun q => q hn)
/-- a callee's contract -/
def CM (o : OM) (l : Launch) (Et : MI) (d : Nat) (h : AH) (args : List Value) (oc : AO) (h1 : AH) : Prop :=
  vx_Met l Et.1 (codeW Et :: lwG) { frames := d, cells := hN h1 - hN h, slots := hS h1 - hS h, locals := 60 * d + 60 } (va_Pc (args.map (trv o)) (fun U => WF o U U.heap ∧ oL o ≤ U.heap.size ∧ aRel o h U.heap)) (QR o oc h1) (QX o oc h1) (hN h1 - hN h) (hS h1 - hS h) (fun q => oL o ≤ q)
theorem tgt_code {t : Nat} {Et : MI} (hm : mtab[t]? = some Et) (h1 : mwi.getD t 0 ≠ 0) : codeW Et ∈ lwG := by
  have g2 := all_of mtab_code (zip_get hm (getD_ne h1))
  simp only [Bool.or_eq_true, beq_iff_eq] at g2
  rcases g2 with g2 | g2
  · exact absurd g2 h1
  · exact mem_lwG (isCode_eq g2) (codeW_good Et)
theorem goodIn_code {Et : MI} (hc : codeW Et ∈ lwG) : ∀ w ∈ codeW Et :: lwG, w ∈ lwG ∧ goodWord w = true := by
  intro w hw
  rcases List.mem_cons.mp hw with rfl | hw
  · exact ⟨hc, codeW_good Et⟩
  · exact ⟨hw, (List.mem_filter.mp hw).2⟩
theorem cm_of {o : OM} {l : Launch} {t d : Nat} {Et : MI} {h h1 : AH} {args : List Value} {oc : AO} (hm : mtab[t]? = some Et) (f1 : codeW Et ∈ lwG) (htr : l.stackTraces = false) (hN1 : hN h ≤ hN h1) (hS1 : hS h ≤ hS h1) (hal : (aenl args).length ≤ Et.2.2.1)
    (IH : ∀ X : CX, xl X = l → FR o X Et d (oO o + hN h) (hS h) (oO o + hN h1) (hS h1) → WG o X Et.2.2.1 (oO o + hN h) (hS h) (QF o X oc h1 (oO o + hN h) (hS h)) h 0 (aent args Et.2.2.1) []) : CM o l Et d h args oc h1 := by
  have n1 := all_of mtab_name (List.mem_of_getElem? hm)
  simp only [Bool.and_eq_true, decide_eq_true_eq] at n1
  have f4 := n1.2.1
  have f5 := n1.1
  have body : ∀ (p : Program) (e : Env) (s : State) (m : MethodId) (ag : Array Value) (below : List Frame) (meth : Method) (c : Code) (s₁ : State), BodyLoose p l Et.1 (headSpec (codeW Et :: lwG) { frames := d, cells := hN h1 - hN h, slots := hS h1 - hS h, locals := 60 * d + 60 }) Et.2.1 Et.2.2.1 Et.2.2.2.1 e s m ag below meth c s₁ → c.maxLocals = Et.2.2.1 → c.exceptionTable.toList = tableOf Et.2.2.2.2.2 →
      va_Pc (args.map (trv o)) (fun U => WF o U U.heap ∧ oL o ≤ U.heap.size ∧ aRel o h U.heap) ag s → W p l e (headSpec (codeW Et :: lwG) { frames := d, cells := hN h1 - hN h, slots := hS h1 - hS h, locals := 60 * d + 60 }).room s m ag below meth c s.heap [] 0 0 (vx_MQ below (QR o oc h1) (QX o oc h1) ag s (hN h1 - hN h) (hS h1 - hS h) (fun q => oL o ≤ q)) (entryFrame m ag Et.2.2.1) := by
    intro p e s m ag below meth c s₁ B hml htb hP
    obtain ⟨rfl, hw, hb, hr⟩ := hP
    have hts := atoms_spec (ws := codeW Et :: lwG) B.pre
    have F : FR o (l, p, e, { frames := d, cells := hN h1 - hN h, slots := hS h1 - hS h, locals := 60 * d + 60 }, s, m, (args.map (trv o)).toArray, below, meth, c) Et d (oO o + hN h) (hS h) (oO o + hN h1) (hS h1) := by
      refine ⟨B.exec, B.bytes, hml, B.returns, ?_, htb, fun hn => ?_, B.notSynchronized, htr, fun w hw => hts w (List.mem_cons_of_mem _ hw), hw, hb, Nat.le_refl _, Nat.le_refl _, by show _ ≤ oO o + hN h + (hN h1 - hN h); omega, by show _ ≤ hS h + (hS h1 - hS h); omega⟩
      · have := findClass_of_methodNamed B.named
        rw [f4] at this
        exact this
      · show meth.name = _
        rw [(name_of_methodNamed B.named B.method).1]
        exact hn
    have k := IH _ rfl F _ s.heap [] (LV.entry o args Et.2.2.1 hal) (by simp [aent]; omega) hr va_S.rf (Nat.le_refl _) (Nat.le_refl _)
    rw [lg_entry_eq]
    have e8 : oO o + hN h1 - (oO o + hN h) = hN h1 - hN h := by omega
    unfold QF at k
    rw [Nat.sub_self, Nat.sub_self, e8] at k
    exact k
  unfold CM
  by_cases hh : Et.2.2.2.2.2 = []
  · refine vx_ofW (cc := Et.2.1) (maxL := Et.2.2.1) (ret := Et.2.2.2.1) (ws' := lwG) f5 (by unfold codeW; rw [if_pos hh]) ?_
    intro p e s m ag below meth c s₁ B hml hx hP
    refine body p e s m ag below meth c s₁ B hml ?_ hP
    rw [hh]
    exact List.eq_nil_iff_forall_not_mem.mpr hx
  · have hcw : codeW Et = .codeWith Et.1 Et.2.1 Et.2.2.1 Et.2.2.2.1 Et.2.2.2.2.2 := by unfold codeW; rw [if_neg hh]
    refine vx_ofWH (cc := Et.2.1) (maxL := Et.2.2.1) (ret := Et.2.2.2.1) (hh := Et.2.2.2.2.2) (ws' := lwG) f5 (by rw [hcw]) ?_
    intro p e s m ag below meth c s₁ B hml hP
    refine body p e s m ag below meth c s₁ B hml ?_ hP
    have hts := atoms_spec (ws := codeW Et :: lwG) B.pre
    exact vx_table (x := Et.1) B (by have := hts _ List.mem_cons_self; rw [hcw] at this; exact this)
section P7
variable {o : OM} {X : CX} {E : MI} {d n0 s0 nE sE L : Nat} {Q : State → Prop} {h : AH} {pc : Nat} {ls : aLS} {st : List Value}
/-- the frame stands at pc with q thrown over it -/
def WX (o : OM) (X : CX) (L n0 s0 : Nat) (Q : State → Prop) (h : AH) (pc : Nat) (ls : aLS) (rest : List Value) (e : Nat) : Prop :=
  ∀ (lsA : Array Slot) (H : Heap) (locs : List Loc) (q : Addr) (ce : Cell), LV o lsA ls → ls.length = L → aRel o h H → va_S (fun q => oL o ≤ q) (xs X).heap H locs → n0 ≤ oO o + hN h → s0 ≤ hS h → H[q]? = some ce → ce.vm = .none → (xs X).vm.findClass (exN e) = some ce.cls →
    vx_W (xp X) (xl X) (xe X) (xR X) (xs X) (xm X) (xa X) (xb X) (xM X) (xc X) H locs (oO o + hN h - n0) (hS h - s0) Q (F0 (xm X) pc lsA (rest.map (trv o))) q
theorem sd_run (F : FR o X E d n0 s0 nE sE) {h1 : AH} {oc : AO} {rest st0 : List Value} {a : Array Value} (g1 : hN h ≤ hN h1) (g2 : hS h ≤ hS h1)
    (run : ∀ (lsA : Array Slot) (H : Heap) (locs : List Loc), LV o lsA ls → ls.length = L → aRel o h H → va_S (fun q => oL o ≤ q) (xs X).heap H locs → n0 ≤ oO o + hN h → s0 ≤ hS h → vx_Run (xp X) (xl X) (xe X) (xR X) (xs X) (xm X) (xa X) (xb X) (xM X) (xc X) H locs (oO o + hN h - n0) (hS h - s0) (hN h1 - hN h) (hS h1 - hS h) (F0 (xm X) pc lsA (st0.map (trv o))) (rest.map (trv o)) (QR o oc h1 a) (QX o oc h1) (fun q => oL o ≤ q))
    (kret : ∀ v, oc = .inl v → WG o X L n0 s0 Q h1 (pc + 3) ls (v.toList ++ rest)) (kthr : ∀ e, oc = .inr e → WX o X L n0 s0 Q h1 pc ls rest e) : WG o X L n0 s0 Q h pc ls st0 := by
  intro lsA H locs q1 q2 q3 q4 q5 q6 T hT Xs
  have ec : oO o + hN h - n0 + (hN h1 - hN h) = oO o + hN h1 - n0 := by omega
  have es : hS h - s0 + (hS h1 - hS h) = hS h1 - s0 := by omega
  rcases run lsA H locs q1 q2 q3 q4 q5 q6 T hT Xs with ⟨v, st₀, t, T', Lc, w0, X', hL, e1, e2, ⟨⟨v1, hv1, hv2⟩, hr, hF⟩, stp⟩ | ⟨q, st₀, t, T', Lc, En, ce, w0, X', hL, e1, e2, ⟨⟨ee, he1, he2⟩, hr, hF⟩, hce, hcv, hcl, stp⟩
  · obtain ⟨-, -, k3⟩ := vx_keep (A0 := fun q => oL o ≤ q) (A1 := fun q => oL o ≤ q) w0 e1 q4 (fun _ _ z => z) (fun _ z => z) hL hF
    rw [ec, es] at X'
    cases hv2
    obtain ⟨t2, a1, b1⟩ := kret v1 hv1 lsA T'.heap (locs ++ Lc) q1 q2 (by rw [e1]; exact hr) k3 (by omega) (by omega) T' rfl X'
    refine ⟨t2, stp t2 ?_, b1⟩
    have e9 : (v1.toList ++ rest).map (trv o) = (v1.map (trv o)).toList ++ rest.map (trv o) := by cases v1 <;> rfl
    rw [e9] at a1
    exact a1
  · obtain ⟨-, -, k3⟩ := vx_keep (A0 := fun q => oL o ≤ q) (A1 := fun q => oL o ≤ q) w0 e1 q4 (fun _ _ z => z) (fun _ z => z) hL hF
    rw [ec, es] at X'
    subst he2
    obtain ⟨t2, a1, b1⟩ := kthr ee he1 lsA T'.heap (locs ++ Lc) q ce q1 q2 (by rw [e1]; exact hr) k3 (by omega) (by omega) (by rw [e1]; exact hce) hcv hcl T' rfl X'
    exact ⟨t2, stp.trans a1, b1⟩
theorem blind_pc (o : OM) (h : AH) (av : List Value) : FrameBlind (va_Pc av (fun U => WF o U U.heap ∧ oL o ≤ U.heap.size ∧ aRel o h U.heap)) := by
  intro a U g mk hq
  obtain ⟨e, hw, hb, hr⟩ := hq
  exact ⟨e, hw.to (U := U.calling g mk a) (State.WarmedH.refl U) (fun _ _ => rfl), hb, hr⟩
theorem pre_pc (F : FR o X E d n0 s0 nE sE) {H : Heap} {locs : List Loc} (q3 : aRel o h H) (q4 : va_S (fun q => oL o ≤ q) (xs X).heap H locs) (av : List Value) : ∀ U : State, U.heap = H → (xs X).WarmedH U.vm → va_Pc av (fun U => WF o U U.heap ∧ oL o ≤ U.heap.size ∧ aRel o h U.heap) av.toArray U := by
  intro U hU hW
  refine ⟨rfl, ?_, by rw [hU]; exact Nat.le_trans F.lb q4.1, by rw [hU]; exact q3⟩
  rw [hU]
  exact F.wf.to hW (fun q hq => q4.2.1 q (Nat.lt_of_lt_of_le hq F.lb) (Nat.not_le.mpr hq))
theorem recv_rf {c : Nat} {v : Value} (hr : recv h c (some v) = true) : ∃ b, trv o v = .ref b := by
  cases v with
  | ref a => exact ⟨_, rfl⟩
  | float u =>
    have hr : (decide (c = 11) && (decide (u.toNat % 2 = 0) && (decide (2 ≤ u.toNat) && decide (u.toNat < 36)))) = true := hr
    simp only [Bool.and_eq_true, decide_eq_true_eq] at hr
    rw [float_litV hr.2.1 hr.2.2.1, litV_tr (by omega)]
    exact ⟨_, rfl⟩
  | _ => cases hr
theorem recv_ok (F : FR o X E d n0 s0 nE sE) {H : Heap} {locs : List Loc} (q3 : aRel o h H) (q4 : va_S (fun q => oL o ≤ q) (xs X).heap H locs) {c : Nat} {v : Value} (hc15 : c ≠ 15) (hr : recv h c (some v) = true) : ∃ b, trv o v = .ref b ∧ ∃ cellB : Cell, H[b]? = some cellB ∧ cellB.vm.isStatics = false ∧ (xs X).vm.findClass (cR c) = some cellB.cls := by
  cases v with
  | ref a =>
    have hr : ((decide (hk h a = kc c) && decide (c < 12)) || (decide (c = 15) && decide (hk h a = 21))) = true := hr
    simp only [Bool.or_eq_true, Bool.and_eq_true, decide_eq_true_eq] at hr
    have hr := hr.resolve_right (fun z => hc15 z.1)
    obtain ⟨c1, -⟩ := clsF c hr.2
    obtain ⟨cell, g1, g2, g3, -⟩ := F.obj q3 hr.1 hr.2 c1
    have hcls := (F.wf.1.1 c _ c1).2
    exact ⟨_, rfl, cell, g1, by rw [g3]; rfl, by rw [g2]; exact hcls.1⟩
  | float u =>
    have hr : (decide (c = 11) && (decide (u.toNat % 2 = 0) && (decide (2 ≤ u.toNat) && decide (u.toNat < 36)))) = true := hr
    simp only [Bool.and_eq_true, decide_eq_true_eq] at hr
    obtain ⟨rfl, h2, h3, h4⟩ := hr
    rw [float_litV h2 h3, litV_tr (by omega)]
    exact ⟨_, rfl, vk_recv (F.lit (u.toNat / 2 - 1) (by omega)) (i := 0) (by decide) q4⟩
  | _ => cases hr
theorem recvU_ok (F : FR o X E d n0 s0 nE sE) {H : Heap} (q3 : aRel o h H) {v : Value} (hr : recvU h (some v) = true) : ∃ b, trv o v = .ref b ∧ ∃ cellB : Cell, H[b]? = some cellB ∧ cellB.vm.isStatics = false ∧ (xs X).vm.findClass RJ4 = some cellB.cls := by
  cases v with
  | ref a =>
    have hr : hk h a = kc 10 := of_decide_eq_true hr
    obtain ⟨c1, -⟩ := clsF 10 (by decide)
    obtain ⟨cell, g1, g2, g3, -⟩ := F.obj q3 hr (by decide) c1
    have hcls := (F.wf.1.1 10 _ c1).2
    exact ⟨_, rfl, cell, g1, by rw [g3]; rfl, by rw [g2]; exact hcls.1⟩
  | _ => cases hr
theorem room_ok (F : FR o X E (d + 1) n0 s0 nE sE) {mL : Nat} (h40 : mL ≤ 40) : d + 1 ≤ (xR X).frames ∧ 8 + (mL + 11) + (60 * d + 60) ≤ (xR X).locals := by
  have := F.fr
  have := F.lo
  omega
theorem mthT_15 : mthT.all (fun e => decide (e.2.1 ≤ 1) || (decide (4 ≤ e.2.1) || (match mtab[e.2.2.2.1]? with | some E => decide (E.2.2.2.2.1 ≠ 15) | none => true))) = true := by decide +kernel
theorem no15 {c i kd wi t : Nat} {host : String} {Et : MI} (hL : look (c, i) mthT = some (kd, wi, t, host)) (h1 : 1 < kd) (h2 : kd < 4) (hm : mtab[t]? = some Et) : Et.2.2.2.2.1 ≠ 15 := by
  have g := all_of mthT_15 (look_mem hL)
  rw [hm] at g
  simp only [Bool.or_eq_true, decide_eq_true_eq] at g
  rcases g with g | g | g
  · omega
  · omega
  · exact g
theorem sd_call (F : FR o X E (d + 1) n0 s0 nE sE) (hLn : L = E.2.2.1) {kd t wi idx : Nat} {host : String} {Et : MI} {args rest : List Value} {oc : AO} {h1 : AH} {ins : Instr}
    (hL : look (E.2.2.2.2.1, idx) mthT = some (kd, wi, t, host)) (hkd : kd < 6) (hm : mtab[t]? = some Et) (hd : decode E.2.1 pc = .ok (ins, 3)) (hrest : (rest.map fun v => v.category).sum ≤ 8)
    (hi : (kd ≤ 1 ∧ ins = .invokestatic idx ∧ args.length = npar Et) ∨ ((kd = 2 ∨ kd = 3) ∧ ins = .invokevirtual idx ∧ ∃ v As, args = v :: As ∧ As.length = npar Et ∧ recv h Et.2.2.2.2.1 (some v) = true) ∨ ((kd = 4 ∨ kd = 5) ∧ ins = .invokespecial idx ∧ ∃ v As, args = v :: As ∧ As.length = npar Et ∧ recv h Et.2.2.2.2.1 (some v) = true))
    (g1 : hN h ≤ hN h1) (g2 : hS h ≤ hS h1) (r1 : oO o + hN h1 ≤ nE) (r2 : hS h1 ≤ sE) (hM : CM o (xl X) Et d h args oc h1)
    (kret : ∀ v, oc = .inl v → WG o X L n0 s0 Q h1 (pc + 3) ls (v.toList ++ rest)) (kthr : ∀ e, oc = .inr e → WX o X L n0 s0 Q h1 pc ls rest e) : WG o X L n0 s0 Q h pc ls (args.reverse ++ rest) := by
  have ht : tgtOK kd t = true := by
    have ok := all_of mthT_tgt (look_mem hL)
    simp only [Bool.or_eq_true, decide_eq_true_eq] at ok
    exact ok.resolve_left (by omega)
  obtain ⟨f1, ⟨sig, f2, f2'⟩, f3, f4, f5, f6, f7, f8, f9, f10, f11⟩ := tgt_facts hm ht
  have hw := mthT_w hL
  unfold mthW at hw
  rw [if_pos hkd, hm] at hw
  have hw : lw_tbl[wi]? = some (mlkW E.2.2.2.2.1 idx (kd == 1 || kd == 3 || kd == 5) Et.1 host) := hw
  have hG := goodIn_code f1
  have hini : (Cond.initialized Et.1.cls).before (xa X) (xs X) = true := by
    rw [f4]
    exact F.hts _ (mtab_ini (List.mem_of_getElem? hm))
  refine sd_run F (a := (args.map (trv o)).toArray) g1 g2 (fun lsA H locs q1 q2 q3 q4 q5 q6 => ?_) kret kthr
  have S : CallFix (xp X) (xm X) (xc X) E.2.1 L (xs X) (xa X) lwG (cR E.2.2.2.2.1) := ⟨F.1, F.2.1, by rw [F.ml, hLn], F.own, F.hts⟩
  have hM := hM
  unfold CM at hM
  have hws : ∀ w ∈ codeW Et :: lwG, ∀ (a' : Array Value) (U : State), (xs X).WarmedH U.vm → w.before a' U = true := fun w hw a' U hW => word_at hW (good_of_word (hG w hw).2) (F.hts w (hG w hw).1)
  have hcb : (codeW Et).before (xa X) (xs X) = true := F.hts _ f1
  obtain ⟨m1, m2⟩ := room_ok F f7
  have hpar : ∀ sg, parseMethodDescriptor Et.1.desc = some sg → npar Et = sg.parameters.length := fun sg hsg => by rw [f2] at hsg; cases hsg; exact f2'
  have hcat : 2 * (F0 (xm X) pc lsA ((args.reverse ++ rest).map (trv o))).monitorRoom + (((rest.map (trv o)).map fun v => v.category).sum) ≤ 8 := by
    show 2 * 0 + _ ≤ 8
    rw [map_cat]
    have := hrest
    omega
  have hsz : (F0 (xm X) pc lsA ((args.reverse ++ rest).map (trv o))).locals.size = L := by show lsA.size = L; rw [q1.sz, q2]
  have hstk : ∀ As : List Value, args = As → (args.reverse ++ rest).map (trv o) = (As.map (trv o)).reverse ++ rest.map (trv o) := fun As e => by rw [e, List.map_append, List.map_reverse]
  have hroom : oO o + hN h - n0 + (hN h1 - hN h) ≤ (xR X).cells ∧ hS h - s0 + (hS h1 - hS h) ≤ (xR X).slots := by
    have := F.ce
    have := F.sl
    omega
  rcases hi with ⟨k1, rfl, hal⟩ | ⟨k1, rfl, v, As, hargs, hal, hrv⟩ | ⟨k1, rfl, v, As, hargs, hal, hrv⟩
  · have hst := F.hts _ (f8 k1)
    by_cases hh : Et.2.2.2.2.2 = []
    · have ecw : codeW Et = .code Et.1 Et.2.1 Et.2.2.1 Et.2.2.2.1 := by unfold codeW; rw [if_pos hh]
      rw [ecw] at hM hws hcb
      rcases (show kd = 0 ∨ kd = 1 by omega) with rfl | rfl
      · exact vx_runS (n := npar Et) (rest := rest.map (trv o)) S hM ⟨⟨rfl, rfl, m1, m2, hws, List.mem_cons_self, hcb, hini, f6, hpar, F.w hw rfl⟩, hst⟩ ⟨blind_pc o h _, pre_pc F q3 q4 _⟩ rfl (by rw [List.length_map]; exact hal) hsz (hstk args rfl) hcat hd hroom
      · exact vx_runSN (n := npar Et) (rest := rest.map (trv o)) S hM ⟨⟨⟨rfl, rfl, m1, m2, hws, List.mem_cons_self⟩, hcb, hini, f6, hpar, F.ng hw rfl rfl⟩, hst, trivial⟩ ⟨blind_pc o h _, pre_pc F q3 q4 _⟩ rfl (by rw [List.length_map]; exact hal) hsz (hstk args rfl) hcat hd hroom
    · have e0 : kd = 0 := f3.resolve_right hh
      subst e0
      have ecw : codeW Et = .codeWith Et.1 Et.2.1 Et.2.2.1 Et.2.2.2.1 Et.2.2.2.2.2 := by unfold codeW; rw [if_neg hh]
      rw [ecw] at hM hws hcb
      exact vx_runSX (n := npar Et) (rest := rest.map (trv o)) S hM ⟨⟨rfl, rfl, m1, m2, hws, List.mem_cons_self⟩, hcb, hini, f6, hpar, F.w hw rfl, hst⟩ ⟨blind_pc o h _, pre_pc F q3 q4 _⟩ rfl (by rw [List.length_map]; exact hal) hsz (hstk args rfl) hcat hd hroom
  · have hh : Et.2.2.2.2.2 = [] := f3.resolve_left (by omega)
    have ecw : codeW Et = .code Et.1 Et.2.1 Et.2.2.1 Et.2.2.2.1 := by unfold codeW; rw [if_pos hh]
    rw [ecw] at hM hws hcb
    have hc15 : Et.2.2.2.2.1 ≠ 15 := no15 hL (by omega) (by omega) hm
    obtain ⟨b, hb, cellB, b1, b2, b3⟩ := recv_ok F q3 q4 hc15 hrv
    have hsel := F.hts _ (f10 (by omega) (by omega))
    have hins := F.hts _ (f9 (by omega))
    have eA : args.map (trv o) = .ref b :: As.map (trv o) := by rw [hargs, List.map_cons, hb]
    rw [eA] at hM ⊢
    have hstk2 : (args.reverse ++ rest).map (trv o) = (As.map (trv o)).reverse ++ .ref b :: rest.map (trv o) := by
      rw [hstk args rfl, eA, List.reverse_cons, List.append_assoc]
      rfl
    rcases k1 with rfl | rfl
    · exact vx_runV (C := Et.1.cls) (n := npar Et) (rest := rest.map (trv o)) S hM ⟨⟨rfl, rfl, m1, m2, hws, List.mem_cons_self, hcb, hini, f6, hpar, F.w hw rfl⟩, hins, hsel⟩ ⟨blind_pc o h _, ⟨cellB, b1, b2, by rw [f4]; exact b3⟩, pre_pc F q3 q4 _⟩ rfl (by rw [List.length_map]; exact hal) hsz hstk2 hcat hd hroom
    · exact vx_runVN (C := Et.1.cls) (n := npar Et) (rest := rest.map (trv o)) S hM ⟨⟨⟨rfl, rfl, m1, m2, hws, List.mem_cons_self⟩, hcb, hini, f6, hpar, F.ng hw rfl rfl⟩, hins, hsel⟩ ⟨blind_pc o h _, ⟨cellB, b1, b2, by rw [f4]; exact b3⟩, pre_pc F q3 q4 _⟩ rfl (by rw [List.length_map]; exact hal) hsz hstk2 hcat hd hroom
  · have hh : Et.2.2.2.2.2 = [] := f3.resolve_left (by omega)
    have hnm := f11 (by omega)
    obtain ⟨b, hb⟩ := recv_rf (o := o) hrv
    have hins := F.hts _ (f9 (by omega))
    have eA : args.map (trv o) = .ref b :: As.map (trv o) := by rw [hargs, List.map_cons, hb]
    have hret : Et.2.2.2.1 = none := mtab_init hm hnm
    have ecw : codeW Et = .code Et.1 Et.2.1 Et.2.2.1 none := by unfold codeW; rw [if_pos hh, hret]
    rw [ecw] at hM hws hcb
    rw [eA] at hM ⊢
    have hstk2 : (args.reverse ++ rest).map (trv o) = (As.map (trv o)).reverse ++ .ref b :: rest.map (trv o) := by
      rw [hstk args rfl, eA, List.reverse_cons, List.append_assoc]
      rfl
    rcases k1 with rfl | rfl
    · exact vx_runI (n := npar Et) (rest := rest.map (trv o)) S hM ⟨⟨rfl, rfl, m1, m2, hws, List.mem_cons_self, hcb, hini, f6, hpar, F.w hw rfl⟩, hnm, hins⟩ ⟨blind_pc o h _, pre_pc F q3 q4 _⟩ rfl (by rw [List.length_map]; exact hal) hsz hstk2 hcat hd hroom
    · exact vx_runIN (n := npar Et) (rest := rest.map (trv o)) S hM ⟨⟨⟨rfl, rfl, m1, m2, hws, List.mem_cons_self⟩, hcb, hini, f6, hpar, F.ng hw rfl rfl⟩, hnm, hins⟩ ⟨blind_pc o h _, pre_pc F q3 q4 _⟩ rfl (by rw [List.length_map]; exact hal) hsz hstk2 hcat hd hroom
theorem am_selP {s : State} {args : Array Value} {C : String} {x y1 : MethodName} (hx : x.cls ≠ "java/lang/invoke/MethodHandle" ∧ x.cls ≠ "java/lang/invoke/VarHandle") (hc : y1.cls = x.cls) (h1 : (Cond.selects C y1 y1).before args s = true) (hpriv : (Cond.privateMethod x).before args s = true) (hinst : (Cond.instanceMethod x).before args s = true) : (Cond.selects C x x).before args s = true := by
  obtain ⟨c2, r2, m2, q1, q2, q3, q4, kP, hkP, hkPi⟩ := Cond.selects_spec h1
  obtain ⟨mk, methM, hnamed, hmethM, -, -⟩ := Cond.instanceMethod_spec hinst
  have hfound : s.methodFound? x.cls x.name x.desc = some mk := State.methodFound?_of_named hnamed hx
  have hcls : mk.cls = m2.cls := Option.some.inj ((findClass_of_methodNamed hnamed).symm.trans (by rw [← hc]; exact findClass_of_methodNamed q3))
  have hsel : selectMethod {} s.vm c2 mk = .method mk := selectMethod_private hmethM (Cond.privateMethod_at hpriv mk methM hnamed hmethM)
  simp only [Cond.before, Cond.holds, Cond.value, q1, hfound, hnamed, hsel, hcls, hkP]
  simp
  exact hkPi
/-- the facts of an inherited target -/
theorem sup_facts {c i kd wi t : Nat} {host : String} {Et : MI} (hL : look (c, i) mthT = some (kd, wi, t, host)) (hkd : kd = 10 ∨ kd = 11) (hm : mtab[t]? = some Et) : ∃ Ex : MI, codeW Et ∈ lwG ∧ codeW Ex ∈ lwG ∧ Et.2.2.2.2.2 = [] ∧ Ex.2.2.2.2.2 = [] ∧ Ex.1 = ⟨RJ5, Et.1.name, Et.1.desc⟩ ∧ Et.1.name ≠ "<init>" ∧ (∃ sig, parseMethodDescriptor Et.1.desc = some sig ∧ npar Et = sig.parameters.length) ∧
    Cond.sameMethod RJ5 RJ5 Et.1.name Et.1.desc ∈ lwG ∧ Cond.instanceMethod Et.1 ∈ lwG ∧ Cond.instanceMethod Ex.1 ∈ lwG ∧ (Cond.selects RJ4 Ex.1 Et.1 ∈ lwG ∨ exm Et = true) ∧ (kd = 11 → c = 10 ∧ Et.1.cls = RJ5) ∧ (kd = 10 → exm Et = false) := by
  have g1 := all_of mthT_sup (look_mem hL)
  simp only [Bool.or_eq_true, Bool.and_eq_true, decide_eq_true_eq, ne_eq] at g1
  have g1 := g1.resolve_left (fun z => by omega)
  obtain ⟨q, hq, hqt⟩ := List.any_eq_true.mp g1
  have hqt : q.1 = t := of_decide_eq_true hqt
  have g2 := all_of supT_ok hq
  rw [hqt, hm] at g2
  cases hx : mtab[q.2]? with
  | none => rw [hx] at g2; cases g2
  | some Ex =>
    rw [hx] at g2
    dsimp only at g2
    unfold supW at g2
    simp only [Bool.and_eq_true, Bool.or_eq_true, decide_eq_true_eq, bne_iff_ne, ne_eq] at g2
    obtain ⟨⟨a1, a2, a3, a4, a5, a6, a7⟩, b1, b2, b3, b4⟩ := g2
    have g3 := all_of mthT_app (look_mem hL)
    rw [hm] at g3
    simp only [Bool.and_eq_true, Bool.or_eq_true, decide_eq_true_eq, ne_eq, Bool.not_eq_true'] at g3
    obtain ⟨sig, hsig⟩ := Option.isSome_iff_exists.mp b3
    refine ⟨Ex, tgt_code hm b1, tgt_code hx b2, a2, a3, a1, b4, ⟨sig, hsig, by unfold npar; rw [hsig]; rfl⟩, List.mem_filter.mpr ⟨a4, rfl⟩, List.mem_filter.mpr ⟨a5, rfl⟩, List.mem_filter.mpr ⟨a6, rfl⟩, ?_, fun e => g3.1.resolve_left (fun z => z e), fun e => g3.2.resolve_left (fun z => z e)⟩
    rcases a7 with a7 | a7
    · exact Or.inl (List.mem_filter.mpr ⟨a7, rfl⟩)
    · exact Or.inr a7
theorem sd_callU (F : FR o X E (d + 1) n0 s0 nE sE) (hLn : L = E.2.2.1) {kd t wi idx : Nat} {host : String} {Et : MI} {args rest : List Value} {oc : AO} {h1 : AH} {ins : Instr}
    (hL : look (E.2.2.2.2.1, idx) mthT = some (kd, wi, t, host)) (hm : mtab[t]? = some Et) (hd : decode E.2.1 pc = .ok (ins, 3)) (hrest : (rest.map fun v => v.category).sum ≤ 8)
    (hi : (kd = 10 ∧ ins = .invokevirtual idx) ∨ (kd = 11 ∧ ins = .invokespecial idx)) (ha : ∃ v As, args = v :: As ∧ As.length = npar Et ∧ recvU h (some v) = true)
    (g1 : hN h ≤ hN h1) (g2 : hS h ≤ hS h1) (r1 : oO o + hN h1 ≤ nE) (r2 : hS h1 ≤ sE) (hM : CM o (xl X) Et d h args oc h1)
    (kret : ∀ v, oc = .inl v → WG o X L n0 s0 Q h1 (pc + 3) ls (v.toList ++ rest)) (kthr : ∀ e, oc = .inr e → WX o X L n0 s0 Q h1 pc ls rest e) : WG o X L n0 s0 Q h pc ls (args.reverse ++ rest) := by
  obtain ⟨Ex, f1, f2, f3, f4, f5, f6, ⟨sig, f7, f7'⟩, f8, f9, f10, f11, f12, f13⟩ := sup_facts hL (hi.imp (fun z => z.1) (fun z => z.1)) hm
  have n1 := all_of mtab_name (List.mem_of_getElem? hm)
  simp only [Bool.and_eq_true, decide_eq_true_eq] at n1
  have f14 : Et.2.2.1 ≤ 40 := by
    have := all_of mtab_len (List.mem_of_getElem? hm)
    simpa only [decide_eq_true_eq] using this
  have hw := mthT_w hL
  have hG := goodIn_code f1
  have hini : (Cond.initialized Et.1.cls).before (xa X) (xs X) = true := by
    rw [n1.2.1]
    exact F.hts _ (mtab_ini (List.mem_of_getElem? hm))
  refine sd_run F (a := (args.map (trv o)).toArray) g1 g2 (fun lsA H locs q1 q2 q3 q4 q5 q6 => ?_) kret kthr
  have S : CallFix (xp X) (xm X) (xc X) E.2.1 L (xs X) (xa X) lwG (cR E.2.2.2.2.1) := ⟨F.1, F.2.1, by rw [F.ml, hLn], F.own, F.hts⟩
  have hM := hM
  unfold CM at hM
  have hws : ∀ w ∈ codeW Et :: lwG, ∀ (a' : Array Value) (U : State), (xs X).WarmedH U.vm → w.before a' U = true := fun w hw a' U hW => word_at hW (good_of_word (hG w hw).2) (F.hts w (hG w hw).1)
  have hcb : (codeW Et).before (xa X) (xs X) = true := F.hts _ f1
  have hcx : (codeW Ex).before (xa X) (xs X) = true := F.hts _ f2
  obtain ⟨m1, m2⟩ := room_ok F f14
  have hpar : ∀ sg, parseMethodDescriptor Et.1.desc = some sg → npar Et = sg.parameters.length := fun sg hsg => by rw [f7] at hsg; cases hsg; exact f7'
  have hcat : 2 * (F0 (xm X) pc lsA ((args.reverse ++ rest).map (trv o))).monitorRoom + (((rest.map (trv o)).map fun v => v.category).sum) ≤ 8 := by
    show 2 * 0 + _ ≤ 8
    rw [map_cat]
    have := hrest
    omega
  have hsz : (F0 (xm X) pc lsA ((args.reverse ++ rest).map (trv o))).locals.size = L := by show lsA.size = L; rw [q1.sz, q2]
  have hroom : oO o + hN h - n0 + (hN h1 - hN h) ≤ (xR X).cells ∧ hS h - s0 + (hS h1 - hS h) ≤ (xR X).slots := by
    have := F.ce
    have := F.sl
    omega
  obtain ⟨v, As, hargs, hal, hrv⟩ := ha
  obtain ⟨b, hb, cellB, b1, b2, b3⟩ := recvU_ok F q3 hrv
  have eA : args.map (trv o) = .ref b :: As.map (trv o) := by rw [hargs, List.map_cons, hb]
  have hstk2 : (args.reverse ++ rest).map (trv o) = (As.map (trv o)).reverse ++ .ref b :: rest.map (trv o) := by
    rw [List.map_append, List.map_reverse, eA, List.reverse_cons, List.append_assoc]
    rfl
  have ecw : codeW Et = .code Et.1 Et.2.1 Et.2.2.1 Et.2.2.2.1 := by unfold codeW; rw [if_pos f3]
  have ecx : codeW Ex = .code Ex.1 Ex.2.1 Ex.2.2.1 Ex.2.2.2.1 := by unfold codeW; rw [if_pos f4]
  rw [ecw] at hM hws hcb
  rw [ecx] at hcx
  rw [eA] at hM ⊢
  have hMH : RJ5 ≠ "java/lang/invoke/MethodHandle" ∧ RJ5 ≠ "java/lang/invoke/VarHandle" := by decide
  rcases hi with ⟨rfl, rfl⟩ | ⟨rfl, rfl⟩
  · have hw : lw_tbl[wi]? = some (.methodLink (cR E.2.2.2.2.1) idx ⟨RJ5, Et.1.name, Et.1.desc⟩) := by
      rw [hw]
      unfold mthW
      rw [if_neg (by decide), if_pos rfl, hm]
      rfl
    have hsel : (Cond.selects RJ4 Ex.1 Et.1).before (xa X) (xs X) = true := by
      rcases f11 with z | z
      · exact F.hts _ z
      · rw [f13 rfl] at z; cases z
    have hdecl : va_Decl (xs X) ⟨RJ5, Ex.1.name, Ex.1.desc⟩ := by
      have e : (⟨RJ5, Ex.1.name, Ex.1.desc⟩ : MethodName) = Ex.1 := by rw [f5]
      rw [e]
      exact va_Decl.of (F.hts _ f10) hcx
    exact vx_runU (C := RJ4) (owner := RJ5) (x := Ex.1) (n := npar Et) (rest := rest.map (trv o)) S hM ⟨⟨rfl, rfl, m1, m2, hws, List.mem_cons_self⟩, hcb, hini, hMH, by rw [f5]; exact hpar, by rw [f5]; exact F.w hw rfl, by rw [f5]; exact F.hts _ f8, hdecl, hsel, F.hts _ f9⟩ ⟨blind_pc o h _, ⟨cellB, b1, b2, b3⟩, pre_pc F q3 q4 _⟩ rfl (by rw [List.length_map]; exact hal) hsz hstk2 hcat hd hroom
  · obtain ⟨c10, hcls⟩ := f12 rfl
    have hw : lw_tbl[wi]? = some (.methodLink (cR E.2.2.2.2.1) idx Et.1) := by
      rw [hw]
      unfold mthW
      rw [if_neg (by decide), if_neg (by decide), if_pos rfl, hm]
      rfl
    obtain ⟨k1, -⟩ := clsF 10 (by decide)
    have hcat2 := (F.wf.1.1 10 _ k1).2
    have hsame : (Cond.sameMethod Et.1.cls Et.1.cls Et.1.name Et.1.desc).before (xa X) (xs X) = true := by rw [hcls]; exact F.hts _ f8
    have hsup : (Cond.superclass (cR E.2.2.2.2.1) Et.1.cls).before (xa X) (xs X) = true := by rw [hcls, c10]; exact F.hts _ (by decide +kernel)
    exact vx_runSU (C := RJ4) (n := npar Et) (rest := rest.map (trv o)) hcat2 S hM ⟨⟨rfl, rfl, m1, m2, hws, List.mem_cons_self⟩, F.w hw rfl, hsame, hsup, F.hts _ f9, hini, hcb, f6, hpar⟩ ⟨blind_pc o h _, ⟨cellB, b1, b2, b3⟩, pre_pc F q3 q4 _⟩ rfl (by rw [List.length_map]; exact hal) hsz hstk2 hcat hd hroom
end P7
