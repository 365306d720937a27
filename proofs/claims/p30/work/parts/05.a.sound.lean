/-! SOUNDNESS, part 1: the relation, the frame's facts, instructions that touch no heap -/
def aAt (o : OM) (h : AH) (H : Heap) (i : Nat) : Prop :=
  (∀ ci : Nat, hk h i = kc ci → ci < 12 → ∃ r : vw_C, vwCl[ci]? = some r ∧ t_OB (oB o + i) ((oD o).1 ci) r.2.2 ((oD o).2 ci) H (fun k => trv o (hF h i k))) ∧
  (hk h i = 10 → H[oB o + i]? = some (arrV (oT o 10) (hl h i) (fun j => .int (hA h i j)))) ∧
  (hk h i = 11 → H[oB o + i]? = some (arrV (oT o 11) (hl h i) (fun j => .int (hA h i j)))) ∧
  (hk h i = 12 → H[oB o + i]? = some (arrV (oT o 12) (hl h i) (fun j => .long (hJ h i j)))) ∧
  (∀ kd, 13 ≤ kd → kd ≤ 16 → hk h i = kd → H[oB o + i]? = some (arrV (oT o kd) (hl h i) (fun j => va_rf ((hR h i j).map (fun a => oB o + a)))))
theorem aAt.congr {o : OM} {h h1 : AH} {H H1 : Heap} {i : Nat} (x : aAt o h H i) (ek : hk h1 i = hk h i) (el : hl h1 i = hl h i) (eF : ∀ k, hF h1 i k = hF h i k) (eA : hA h1 i = hA h i) (eJ : hJ h1 i = hJ h i) (eR : hR h1 i = hR h i) (hq : H1[oB o + i]? = H[oB o + i]?) : aAt o h1 H1 i := by
  obtain ⟨x1, x2, x3, x4, x5⟩ := x
  refine ⟨fun ci h1 h2 => ?_, ?_, ?_, ?_, ?_⟩
  · obtain ⟨r, g1, g2⟩ := x1 ci (by rw [← ek]; exact h1) h2
    exact ⟨r, g1, (g2.kept hq).to (fun k _ => by rw [eF k])⟩
  · rw [ek, el, eA, hq]; exact x2
  · rw [ek, el, eA, hq]; exact x3
  · rw [ek, el, eJ, hq]; exact x4
  · rw [ek, el, eR, hq]; exact x5
def aRel (o : OM) (h : AH) (H : Heap) : Prop := H.size = oB o + hN h ∧ (∀ i, hN h ≤ i → hk h i = 0) ∧ (∀ i, i < hN h → aAt o h H i) ∧ hX h = oX o
theorem aRel.lt {o : OM} {h : AH} {H : Heap} (R : aRel o h H) {a : Nat} (ha : hk h a ≠ 0) : a < hN h := by
  rcases Nat.lt_or_ge a (hN h) with q | q
  · exact q
  · exact absurd (R.2.1 a q) ha
/-- one cell written -/
theorem aRel.set {o : OM} {h h1 : AH} {H H1 : Heap} {a : Nat} (R : aRel o h H) (eN : hN h1 = hN h) (ek : ∀ i, hk h1 i = hk h i) (el : ∀ i, hl h1 i = hl h i) (eX : hX h1 = hX h) (z : H1.size = H.size) (oq : ∀ q, q ≠ oB o + a → H1[q]? = H[q]?)
    (eF : ∀ i, i ≠ a → ∀ k, hF h1 i k = hF h i k) (eA : ∀ i, i ≠ a → hA h1 i = hA h i) (eJ : ∀ i, i ≠ a → hJ h1 i = hJ h i) (eR : ∀ i, i ≠ a → hR h1 i = hR h i) (ha : a < hN h → aAt o h1 H1 a) : aRel o h1 H1 := by
  refine ⟨by rw [z, eN]; exact R.1, fun i hi => by rw [ek]; exact R.2.1 i (by rw [← eN]; exact hi), fun i hi => ?_, by rw [eX]; exact R.2.2.2⟩
  rw [eN] at hi
  by_cases e : i = a
  · subst e; exact ha hi
  · exact (R.2.2.1 i hi).congr (ek i) (el i) (eF i e) (eA i e) (eJ i e) (eR i e) (oq _ (by omega))
/-- a cell more -/
theorem aRel.push {o : OM} {h h1 : AH} {H H1 : Heap} {n : Nat} (R : aRel o h H) (eN : hN h1 = hN h + n) (ek : ∀ i, (i < hN h ∨ hN h + n ≤ i) → hk h1 i = hk h i) (el : ∀ i, i < hN h → hl h1 i = hl h i) (eX : hX h1 = hX h) (z : H1.size = H.size + n) (oq : ∀ q, q < H.size → H1[q]? = H[q]?)
    (eF : ∀ i, i < hN h → ∀ k, hF h1 i k = hF h i k) (eA : ∀ i, i < hN h → hA h1 i = hA h i) (eJ : ∀ i, i < hN h → hJ h1 i = hJ h i) (eR : ∀ i, i < hN h → hR h1 i = hR h i) (ha : ∀ i, hN h ≤ i → i < hN h + n → aAt o h1 H1 i) : aRel o h1 H1 := by
  obtain ⟨r1, r2, r3, r4⟩ := R
  refine ⟨by rw [z, eN, r1]; omega, fun i hi => by rw [eN] at hi; rw [ek i (Or.inr hi)]; exact r2 i (by omega), fun i hi => ?_, by rw [eX]; exact r4⟩
  rw [eN] at hi
  by_cases e : i < hN h
  · exact (r3 i e).congr (ek i (Or.inl e)) (el i e) (eF i e) (eA i e) (eJ i e) (eR i e) (oq _ (by omega))
  · exact ha i (by omega) hi

theorem ngW_warm {w : Cond} (hw : ngK w = true) {s U : State} (hW : s.WarmedH U.vm) (h : va_Nw w s) : va_Nw w U := by
  cases w <;> first | exact va_Nw.warmF hW h | exact va_Nw.warmM hW h | exact va_Nw.warmC hW h | exact va_Nw.warmD hW h | cases hw
def aoF (vm : Vm) (comp : ClassId) : Option Nat := vm.classes.findIdx? fun x => match x.kind with | .array component _ => component == comp | _ => false
theorem aoF_bare (vm : Vm) (comp : ClassId) : aoF vm.bare comp = aoF vm comp := by
  simp only [aoF, Vm.bare, Array.findIdx?_map]
  rfl
def aoA (t : FieldType) (U : State) : Prop := (Cond.arrayOver (.array t)).before #[] U = true
theorem aoA_spec {args : Array Value} {first s : State} {o : Option Outcome} {idx : List Nat} {n : FieldType} (h : (Cond.arrayOver (.array n)).holds args first o s idx = true) :
    ∃ comp c k, s.vm.findClass (FieldType.array n).toString = some comp ∧ aoF s.vm comp = some c ∧ s.vm.classes[c]? = some k ∧ k.kind = .array comp (.array n) ∧
      s.vm.findClass ("[" ++ (FieldType.array n).toString) = some c := by
  simp only [Cond.holds, Cond.value, beq_iff_eq] at h
  cases hc : s.vm.findClass (FieldType.array n).toString with
  | none => simp [hc] at h
  | some comp =>
    simp only [hc, Option.bind_some, Option.bind_eq_some_iff, Option.map_eq_some_iff] at h
    obtain ⟨c, hi, k, hk, hb⟩ := h
    obtain ⟨hlt, hp, -⟩ := Array.findIdx?_eq_some_iff_getElem.mp hi
    have hkk : s.vm.classes[c] = k := (Array.getElem?_eq_some_iff.mp hk).2
    rw [hkk] at hp
    cases hkind : k.kind with
    | array component ty =>
      rw [hkind] at hb hp
      simp at hb hp
      exact ⟨comp, c, k, rfl, hi, hk, by rw [hkind, hp, hb.1], hb.2⟩
    | _ => rw [hkind] at hb; simp at hb
theorem aoA.moved {t : FieldType} {u U : State} (hvm : u.vm.Alike U.vm) (h : aoA t u) : aoA t U := by
  obtain ⟨comp, c, k, h1, h2, h3, h4, h5⟩ := aoA_spec h
  obtain ⟨k', hk', he⟩ := hvm.2.2 _ _ h3
  have hi : aoF U.vm comp = some c := by
    rw [← aoF_bare]
    first | rw [hvm.bare_eq] | rw [← hvm.bare_eq]
    rw [aoF_bare]
    exact h2
  have hkind : k'.kind = .array comp (.array t) := by rw [he]; exact h4
  have f1 : U.vm.findClass (FieldType.array t).toString = some comp := by rw [hvm.findClass]; exact h1
  have f2 : U.vm.findClass ("[" ++ (FieldType.array t).toString) = some c := by rw [hvm.findClass]; exact h5
  unfold aoA Cond.before Cond.holds
  simp only [Cond.value]
  rw [f1, Option.bind_some]
  refine (congrArg (fun o : Option Nat => (o.bind (fun c => (U.vm.classes[c]?).map fun (k : Class) => match k.kind with | .array _ ty => decide (ty = FieldType.array t) && decide (U.vm.findClass ("[" ++ (FieldType.array t).toString) = some c) | _ => false) == some true)) hi).trans ?_
  simp [hk', hkind, f2]
/-- what is known of the texts, of String constants -/
def am_S (N : Nat) (len : List Nat) (byt : List (List Int32)) (adK adV : Nat → Nat) (A : Nat → Prop) (U : State) (H : Heap) : Prop := ∀ i : Nat, i < N → vk_S 1 [len.getD i 0] [byt.getD i []] (fun _ => adK i) (fun _ => adV i) A U H
theorem am_S.moved {N : Nat} {len : List Nat} {byt : List (List Int32)} {adK adV : Nat → Nat} {A : Nat → Prop} {u U : State} {H : Heap} (hvm : u.vm.Alike U.vm) (h : am_S N len byt adK adV A u H) : am_S N len byt adK adV A U H := fun i hi => (h i hi).moved hvm
theorem am_S.kept {N : Nat} {len : List Nat} {byt : List (List Int32)} {adK adV : Nat → Nat} {A : Nat → Prop} {U : State} {H H1 : Heap} (h : am_S N len byt adK adV A U H) (hq : ∀ a : Nat, a < H.size → ¬ A a → H1[a]? = H[a]?) : am_S N len byt adK adV A U H1 := fun i hi => (h i hi).kept hq
def vrN (j : Nat) : Nat := if j = 0 then 4 else if j = 1 then 1 else 5
/-- the rest of the world: rows of sheets and of lines, the statics that hold rows -/
def WE (o : OM) (U : State) (H : Heap) : Prop :=
  (ArrOfT U (oT o 15) (.object (cR 9)) ∧ va_RA U (oT o 15) (.object (cR 9))) ∧ (ArrOfT U (oT o 16) (.object (cR 6)) ∧ va_RA U (oT o 16) (.object (cR 6))) ∧ va_AO (cR 9) U ∧ va_AO (cR 6) U ∧
  va_Z "TemperingLineLaw" "VARIABLES" "[Ljava/lang/String;" (.ref (oW o 0)) (fun q => oL o ≤ q) U H ∧ va_T (.object "java/lang/String") (oW o 0) 3 (fun j => .ref (oK o (vrN j))) (fun q => oL o ≤ q) U H ∧
  va_Z "java/lang/Integer" "DigitOnes" "[B" (.ref (oW o 1)) (fun q => oL o ≤ q) U H ∧ va_T .byte (oW o 1) 100 (fun j => .int (nI (48 + j % 10))) (fun q => oL o ≤ q) U H ∧
  va_Z "java/lang/Integer" "DigitTens" "[B" (.ref (oW o 2)) (fun q => oL o ≤ q) U H ∧ va_T .byte (oW o 2) 100 (fun j => .int (nI (48 + j / 10))) (fun q => oL o ≤ q) U H
theorem WE.to {o : OM} {s U : State} {H H1 : Heap} (h : WE o s H) (hvm : s.vm.Alike U.vm) (hk : ∀ a : Nat, a < H.size → ¬ (fun q => oL o ≤ q) a → H1[a]? = H[a]?) : WE o U H1 := by
  obtain ⟨h1, h2, h3, h4, h5, h6, h7, h8, h9, g1⟩ := h
  exact ⟨⟨arrOfT_moved hvm h1.1, va_RA.moved hvm h1.2⟩, ⟨arrOfT_moved hvm h2.1, va_RA.moved hvm h2.2⟩, h3.moved hvm, h4.moved hvm, va_Z.moved hvm (va_Z.kept h5 hk), (h6.kept hk).moved hvm, va_Z.moved hvm (va_Z.kept h7 hk), (h8.kept hk).moved hvm, va_Z.moved hvm (va_Z.kept h9 hk), (g1.kept hk).moved hvm⟩
/-- the world around the abstract heap -/
def WF (o : OM) (U : State) (H : Heap) : Prop :=
  va_K (oD o) vwCl [] U ∧
  (ArrOfT U (oT o 10) .int ∧ va_RA U (oT o 10) .int) ∧ (ArrOfT U (oT o 11) .byte ∧ va_RA U (oT o 11) .byte) ∧ (ArrOfT U (oT o 12) .long ∧ va_RA U (oT o 12) .long) ∧
  (ArrOfT U (oT o 13) (.object (cR 2)) ∧ va_RA U (oT o 13) (.object (cR 2))) ∧ (ArrOfT U (oT o 14) (.array .int) ∧ va_RA U (oT o 14) (.array .int)) ∧
  va_X (oS o) (oX o).1 (oX o).2 U H ∧ oS o < oL o ∧
  (∀ q ∈ strT, vk_R (cR q.1.1) q.1.2 q.2.1 (oK o q.2.2) U) ∧ am_S 17 lenJ bytJ (oK o) (oV o) (fun q => oL o ≤ q) U H ∧
  va_Z "java/lang/String" "COMPACT_STRINGS" "Z" (.int 1) (fun q => oL o ≤ q) U H ∧ va_Z "jdk/internal/util/Preconditions" "SIOOBE_FORMATTER" "Ljava/util/function/BiFunction;" (va_rf (oF o)) (fun q => oL o ≤ q) U H ∧
  vx_Zq Bundle.tN "UNASSIGNED_STACK" Bundle.steD (fun q => oL o ≤ q) U H ∧ vx_Zq Bundle.tN "SUPPRESSED_SENTINEL" Bundle.listD (fun q => oL o ≤ q) U H ∧
  (∀ w ∈ ngW, va_Nw w U) ∧
  (∀ i j : Nat, i < 3 → j < 3 → i ≠ j → va_Nc (exN i) (exN j) U) ∧ va_AO (cR 2) U ∧ aoA .int U ∧ WE o U H
theorem WF.to {o : OM} {s U : State} {H H1 : Heap} (h : WF o s H) (hW : s.WarmedH U.vm) (hq : ∀ q : Nat, q < oL o → H1[q]? = H[q]?) : WF o U H1 := by
  have hvm := hW.alike
  have hk : ∀ a : Nat, a < H.size → ¬ (fun q => oL o ≤ q) a → H1[a]? = H[a]? := fun a _ h => hq a (Nat.not_le.mp h)
  obtain ⟨h1, h2, h3, h4, h5, h6, h7, h8, h9, g1, g2, g3, h10, h11, h12, h13, h14, h15, h16⟩ := h
  exact ⟨va_K.moved hvm h1, ⟨arrOfT_moved hvm h2.1, va_RA.moved hvm h2.2⟩, ⟨arrOfT_moved hvm h3.1, va_RA.moved hvm h3.2⟩, ⟨arrOfT_moved hvm h4.1, va_RA.moved hvm h4.2⟩, ⟨arrOfT_moved hvm h5.1, va_RA.moved hvm h5.2⟩, ⟨arrOfT_moved hvm h6.1, va_RA.moved hvm h6.2⟩,
    va_X.moved hvm (va_X.kept h7 (hq _ h8)), h8, fun q hm => vk_R.warm hW (h9 q hm), (g1.kept hk).moved hvm, va_Z.moved hvm (va_Z.kept g2 hk), va_Z.moved hvm (va_Z.kept g3 hk), (h10.kept hk).moved hvm, (h11.kept hk).moved hvm, fun w hw => ngW_warm (List.mem_filter.mp hw).2 hW (h12 w hw), fun i j a b c => (h13 i j a b c).moved hvm, va_AO.moved hvm h14, aoA.moved hvm h15, h16.to hvm hk⟩
abbrev CX : Type := Launch × Program × Env × Room × State × MethodId × Array Value × List Frame × Method × Code
abbrev xl (X : CX) := X.1
abbrev xp (X : CX) := X.2.1
abbrev xe (X : CX) := X.2.2.1
abbrev xR (X : CX) := X.2.2.2.1
abbrev xs (X : CX) := X.2.2.2.2.1
abbrev xm (X : CX) := X.2.2.2.2.2.1
abbrev xa (X : CX) := X.2.2.2.2.2.2.1
abbrev xb (X : CX) := X.2.2.2.2.2.2.2.1
abbrev xM (X : CX) := X.2.2.2.2.2.2.2.2.1
abbrev xc (X : CX) := X.2.2.2.2.2.2.2.2.2
/-- what is known of a frame: its code is that of method E of the table -/
def FR (o : OM) (X : CX) (E : MI) (d n0 s0 nE sE : Nat) : Prop :=
  (xp X).tables.exec = Jvm.exec ∧ (xc X).code = E.2.1 ∧ (xc X).maxLocals = E.2.2.1 ∧ (xM X).sig.returnType = E.2.2.2.1 ∧ (xs X).vm.findClass (cR E.2.2.2.2.1) = some (xm X).cls ∧ (xc X).exceptionTable.toList = tableOf E.2.2.2.2.2 ∧
  (E.1.name = "<init>" → (xM X).name = "<init>") ∧ (xM X).locks = false ∧ (xl X).stackTraces = false ∧ (∀ w ∈ lwG, w.before (xa X) (xs X) = true) ∧ WF o (xs X) (xs X).heap ∧ oL o ≤ (xs X).heap.size ∧
  d ≤ (xR X).frames ∧ 60 * d + 60 ≤ (xR X).locals ∧ nE ≤ n0 + (xR X).cells ∧ sE ≤ s0 + (xR X).slots
/-- the machine goes on from here, whatever the cells' contents: the abstract frame stands for it -/
def WG (o : OM) (X : CX) (L n0 s0 : Nat) (Q : State → Prop) (h : AH) (pc : Nat) (ls : aLS) (st : List Value) : Prop :=
  ∀ (lsA : Array Slot) (H : Heap) (locs : List Loc), LV o lsA ls → ls.length = L → aRel o h H → va_S (fun q => oL o ≤ q) (xs X).heap H locs → n0 ≤ oO o + hN h → s0 ≤ hS h →
    W (xp X) (xl X) (xe X) (xR X) (xs X) (xm X) (xa X) (xb X) (xM X) (xc X) H locs (oO o + hN h - n0) (hS h - s0) Q (F0 (xm X) pc lsA (st.map (trv o)))
section P1
variable {o : OM} {X : CX} {E : MI} {d n0 s0 nE sE L : Nat} {Q : State → Prop} {h : AH} {pc : Nat} {ls : aLS} {st : List Value}
theorem sd_iconst (F : FR o X E d n0 s0 nE sE) {n : Int} (hd : decode E.2.1 pc = .ok (.iconst n, 1)) (k : WG o X L n0 s0 Q h (pc + 1) ls (.int (Int32.ofInt n) :: st)) : WG o X L n0 s0 Q h pc ls st :=
  fun lsA H locs a b c e f g => lv_iconst F.1 F.2.1 hd rfl (k lsA H locs a b c e f g)
theorem sd_bipush (F : FR o X E d n0 s0 nE sE) {n : Int} (hd : decode E.2.1 pc = .ok (.bipush n, 2)) (k : WG o X L n0 s0 Q h (pc + 2) ls (.int (Int8.ofInt n).toInt32 :: st)) : WG o X L n0 s0 Q h pc ls st :=
  fun lsA H locs a b c e f g => lv_bipush F.1 F.2.1 hd rfl (k lsA H locs a b c e f g)
theorem sd_sipush (F : FR o X E d n0 s0 nE sE) {n : Int} (hd : decode E.2.1 pc = .ok (.sipush n, 3)) (k : WG o X L n0 s0 Q h (pc + 3) ls (.int (Int16.ofInt n).toInt32 :: st)) : WG o X L n0 s0 Q h pc ls st :=
  fun lsA H locs a b c e f g => lv_sipush F.1 F.2.1 hd rfl (k lsA H locs a b c e f g)
theorem sd_lconst (F : FR o X E d n0 s0 nE sE) {n : Fin 2} (hd : decode E.2.1 pc = .ok (.lconst n, 1)) (k : WG o X L n0 s0 Q h (pc + 1) ls (.long (Int64.ofNat n) :: st)) : WG o X L n0 s0 Q h pc ls st :=
  fun lsA H locs a b c e f g => lv_lconst F.1 F.2.1 hd rfl (k lsA H locs a b c e f g)
theorem sd_iload_n (F : FR o X E d n0 s0 nE sE) {n : Fin 4} {x : Int32} (hd : decode E.2.1 pc = .ok (.iload_n n, 1)) (hi : ls[(n : Nat)]? = some (some (.int x))) (k : WG o X L n0 s0 Q h (pc + 1) ls (.int x :: st)) : WG o X L n0 s0 Q h pc ls st :=
  fun lsA H locs a b c e f g => lv_iload_n F.1 F.2.1 hd rfl (a.get hi) (k lsA H locs a b c e f g)
theorem sd_iload (F : FR o X E d n0 s0 nE sE) {n : Nat} {x : Int32} (hd : decode E.2.1 pc = .ok (.iload n, 2)) (hi : ls[n]? = some (some (.int x))) (k : WG o X L n0 s0 Q h (pc + 2) ls (.int x :: st)) : WG o X L n0 s0 Q h pc ls st :=
  fun lsA H locs a b c e f g => lv_iload F.1 F.2.1 hd (a.get hi) (k lsA H locs a b c e f g)
theorem sd_lload_n (F : FR o X E d n0 s0 nE sE) {n : Fin 4} {x : Int64} (hd : decode E.2.1 pc = .ok (.lload_n n, 1)) (hi : ls[(n : Nat)]? = some (some (.long x))) (k : WG o X L n0 s0 Q h (pc + 1) ls (.long x :: st)) : WG o X L n0 s0 Q h pc ls st :=
  fun lsA H locs a b c e f g => lv_lload_n F.1 F.2.1 hd rfl (a.get hi) (k lsA H locs a b c e f g)
theorem sd_lload (F : FR o X E d n0 s0 nE sE) {n : Nat} {x : Int64} (hd : decode E.2.1 pc = .ok (.lload n, 2)) (hi : ls[n]? = some (some (.long x))) (k : WG o X L n0 s0 Q h (pc + 2) ls (.long x :: st)) : WG o X L n0 s0 Q h pc ls st :=
  fun lsA H locs a b c e f g => lv_lload F.1 F.2.1 hd (a.get hi) (k lsA H locs a b c e f g)
theorem sd_aload_n (F : FR o X E d n0 s0 nE sE) {n : Fin 4} {x : Value} (hr : isR x = true) (hd : decode E.2.1 pc = .ok (.aload_n n, 1)) (hi : ls[(n : Nat)]? = some (some x)) (k : WG o X L n0 s0 Q h (pc + 1) ls (x :: st)) : WG o X L n0 s0 Q h pc ls st := by
  intro lsA H locs a b c e f g
  have h1 := a.get hi
  have h2 := k lsA H locs a b c e f g
  rcases isR_tr (o := o) hr with ⟨q, hq⟩ | hq
  · rw [List.map_cons, hq] at h2
    rw [hq] at h1
    exact lv_aload_n F.1 F.2.1 hd rfl h1 h2
  · rw [List.map_cons, hq] at h2
    rw [hq] at h1
    exact lv_aload_nN F.1 F.2.1 hd rfl h1 h2
theorem sd_aload (F : FR o X E d n0 s0 nE sE) {n : Nat} {x : Value} (hr : isR x = true) (hd : decode E.2.1 pc = .ok (.aload n, 2)) (hi : ls[n]? = some (some x)) (k : WG o X L n0 s0 Q h (pc + 2) ls (x :: st)) : WG o X L n0 s0 Q h pc ls st := by
  intro lsA H locs a b c e f g
  have h1 := a.get hi
  have h2 := k lsA H locs a b c e f g
  rcases isR_tr (o := o) hr with ⟨q, hq⟩ | hq
  · rw [List.map_cons, hq] at h2
    rw [hq] at h1
    exact lv_aload F.1 F.2.1 hd h1 h2
  · rw [List.map_cons, hq] at h2
    rw [hq] at h1
    exact lv_aloadN F.1 F.2.1 hd h1 h2
theorem sd_istore_n (F : FR o X E d n0 s0 nE sE) {n : Fin 4} {x : Int32} (hd : decode E.2.1 pc = .ok (.istore_n n, 1)) (hi : (n : Nat) < ls.length) (k : WG o X L n0 s0 Q h (pc + 1) (lst1 ls n (some (.int x))) st) : WG o X L n0 s0 Q h pc ls (.int x :: st) :=
  fun lsA H locs a b c e f g => lv_istore_n F.1 F.2.1 hd rfl a hi rfl (fun ls' a' => k ls' H locs (LV.st1 (v := .int x) a') (by rw [lst1_len]; exact b) c e f g)
theorem sd_istore (F : FR o X E d n0 s0 nE sE) {n : Nat} {x : Int32} (hd : decode E.2.1 pc = .ok (.istore n, 2)) (hi : n < ls.length) (k : WG o X L n0 s0 Q h (pc + 2) (lst1 ls n (some (.int x))) st) : WG o X L n0 s0 Q h pc ls (.int x :: st) :=
  fun lsA H locs a b c e f g => lv_istore F.1 F.2.1 hd a hi rfl (fun ls' a' => k ls' H locs (LV.st1 (v := .int x) a') (by rw [lst1_len]; exact b) c e f g)
theorem sd_lstore_n (F : FR o X E d n0 s0 nE sE) {n : Fin 4} {x : Int64} (hd : decode E.2.1 pc = .ok (.lstore_n n, 1)) (hi : (n : Nat) + 1 < ls.length) (k : WG o X L n0 s0 Q h (pc + 1) (lst2 ls n (some (.long x))) st) : WG o X L n0 s0 Q h pc ls (.long x :: st) :=
  fun lsA H locs a b c e f g => lv_lstore_n F.1 F.2.1 hd rfl a hi rfl (fun ls' a' => k ls' H locs (LV.st2 (v := .long x) hi a') (by rw [lst2_len]; exact b) c e f g)
theorem sd_lstore (F : FR o X E d n0 s0 nE sE) {n : Nat} {x : Int64} (hd : decode E.2.1 pc = .ok (.lstore n, 2)) (hi : n + 1 < ls.length) (k : WG o X L n0 s0 Q h (pc + 2) (lst2 ls n (some (.long x))) st) : WG o X L n0 s0 Q h pc ls (.long x :: st) :=
  fun lsA H locs a b c e f g => lv_lstore F.1 F.2.1 hd a hi rfl (fun ls' a' => k ls' H locs (LV.st2 (v := .long x) hi a') (by rw [lst2_len]; exact b) c e f g)
theorem sd_astore_n (F : FR o X E d n0 s0 nE sE) {n : Fin 4} {x : Value} (hr : isR x = true) (hd : decode E.2.1 pc = .ok (.astore_n n, 1)) (hi : (n : Nat) < ls.length) (k : WG o X L n0 s0 Q h (pc + 1) (lst1 ls n (some x)) st) : WG o X L n0 s0 Q h pc ls (x :: st) := by
  intro lsA H locs a b c e f g
  rcases isR_tr (o := o) hr with ⟨q, hq⟩ | hq
  · rw [List.map_cons, hq]
    exact lv_astore_n F.1 F.2.1 hd rfl a hi rfl (fun ls' a' => k ls' H locs (LV.st1 (v := x) (by rw [hq]; exact a')) (by rw [lst1_len]; exact b) c e f g)
  · rw [List.map_cons, hq]
    exact lv_astore_nN F.1 F.2.1 hd rfl a hi rfl (fun ls' a' => k ls' H locs (LV.st1 (v := x) (by rw [hq]; exact a')) (by rw [lst1_len]; exact b) c e f g)
theorem sd_astore (F : FR o X E d n0 s0 nE sE) {n : Nat} {x : Value} (hr : isR x = true) (hd : decode E.2.1 pc = .ok (.astore n, 2)) (hi : n < ls.length) (k : WG o X L n0 s0 Q h (pc + 2) (lst1 ls n (some x)) st) : WG o X L n0 s0 Q h pc ls (x :: st) := by
  intro lsA H locs a b c e f g
  rcases isR_tr (o := o) hr with ⟨q, hq⟩ | hq
  · rw [List.map_cons, hq]
    exact lv_astore F.1 F.2.1 hd a hi rfl (fun ls' a' => k ls' H locs (LV.st1 (v := x) (by rw [hq]; exact a')) (by rw [lst1_len]; exact b) c e f g)
  · rw [List.map_cons, hq]
    exact lv_astoreN F.1 F.2.1 hd a hi rfl (fun ls' a' => k ls' H locs (LV.st1 (v := x) (by rw [hq]; exact a')) (by rw [lst1_len]; exact b) c e f g)
theorem sd_iinc (F : FR o X E d n0 s0 nE sE) {i : Nat} {n : Int} {x : Int32} (hd : decode E.2.1 pc = .ok (.iinc i n, 3)) (hi : ls[i]? = some (some (.int x))) (k : WG o X L n0 s0 Q h (pc + 3) (lst1 ls i (some (.int (x + Int32.ofInt n)))) st) : WG o X L n0 s0 Q h pc ls st := by
  intro lsA H locs a b c e f g
  have hm : (i, Value.int x) ∈ lvp o ls := lvp_mem.mpr ⟨_, hi, rfl⟩
  obtain ⟨k0, hk0⟩ := List.getElem?_of_mem hm
  have hlt : i < ls.length := (List.getElem?_eq_some_iff.mp hi).1
  exact lv_iinc F.1 F.2.1 hd a hk0 rfl hlt rfl (fun ls' a' => k ls' H locs (LV.st1 (v := .int (x + Int32.ofInt n)) a') (by rw [lst1_len]; exact b) c e f g)
theorem sd_iadd (F : FR o X E d n0 s0 nE sE) {x y : Int32} (hd : decode E.2.1 pc = .ok (.iadd, 1)) (k : WG o X L n0 s0 Q h (pc + 1) ls (.int (x + y) :: st)) : WG o X L n0 s0 Q h pc ls (.int y :: .int x :: st) :=
  fun lsA H locs a b c e f g => lv_iadd F.1 F.2.1 hd (k lsA H locs a b c e f g)
theorem sd_isub (F : FR o X E d n0 s0 nE sE) {x y : Int32} (hd : decode E.2.1 pc = .ok (.isub, 1)) (k : WG o X L n0 s0 Q h (pc + 1) ls (.int (x - y) :: st)) : WG o X L n0 s0 Q h pc ls (.int y :: .int x :: st) :=
  fun lsA H locs a b c e f g => lv_isub F.1 F.2.1 hd (k lsA H locs a b c e f g)
theorem sd_imul (F : FR o X E d n0 s0 nE sE) {x y : Int32} (hd : decode E.2.1 pc = .ok (.imul, 1)) (k : WG o X L n0 s0 Q h (pc + 1) ls (.int (x * y) :: st)) : WG o X L n0 s0 Q h pc ls (.int y :: .int x :: st) :=
  fun lsA H locs a b c e f g => lv_imul F.1 F.2.1 hd (k lsA H locs a b c e f g)
theorem sd_idiv (F : FR o X E d n0 s0 nE sE) {x y : Int32} (hd : decode E.2.1 pc = .ok (.idiv, 1)) (h0 : ¬ y = 0) (k : WG o X L n0 s0 Q h (pc + 1) ls (.int (x / y) :: st)) : WG o X L n0 s0 Q h pc ls (.int y :: .int x :: st) :=
  fun lsA H locs a b c e f g => lv_idiv F.1 F.2.1 hd h0 (k lsA H locs a b c e f g)
theorem sd_irem (F : FR o X E d n0 s0 nE sE) {x y : Int32} (hd : decode E.2.1 pc = .ok (.irem, 1)) (h0 : ¬ y = 0) (k : WG o X L n0 s0 Q h (pc + 1) ls (.int (x - x / y * y) :: st)) : WG o X L n0 s0 Q h pc ls (.int y :: .int x :: st) :=
  fun lsA H locs a b c e f g => lv_irem F.1 F.2.1 hd h0 (k lsA H locs a b c e f g)
theorem sd_ineg (F : FR o X E d n0 s0 nE sE) {x : Int32} (hd : decode E.2.1 pc = .ok (.ineg, 1)) (k : WG o X L n0 s0 Q h (pc + 1) ls (.int (-x) :: st)) : WG o X L n0 s0 Q h pc ls (.int x :: st) :=
  fun lsA H locs a b c e f g => lv_ineg F.1 F.2.1 hd (k lsA H locs a b c e f g)
theorem sd_iand (F : FR o X E d n0 s0 nE sE) {x y : Int32} (hd : decode E.2.1 pc = .ok (.iand, 1)) (k : WG o X L n0 s0 Q h (pc + 1) ls (.int (x &&& y) :: st)) : WG o X L n0 s0 Q h pc ls (.int y :: .int x :: st) :=
  fun lsA H locs a b c e f g => lv_iand F.1 F.2.1 hd (k lsA H locs a b c e f g)
theorem sd_ior (F : FR o X E d n0 s0 nE sE) {x y : Int32} (hd : decode E.2.1 pc = .ok (.ior, 1)) (k : WG o X L n0 s0 Q h (pc + 1) ls (.int (x ||| y) :: st)) : WG o X L n0 s0 Q h pc ls (.int y :: .int x :: st) :=
  fun lsA H locs a b c e f g => lv_ior F.1 F.2.1 hd (k lsA H locs a b c e f g)
theorem sd_ishl (F : FR o X E d n0 s0 nE sE) {x y : Int32} (hd : decode E.2.1 pc = .ok (.ishl, 1)) (k : WG o X L n0 s0 Q h (pc + 1) ls (.int (x <<< (y &&& 31)) :: st)) : WG o X L n0 s0 Q h pc ls (.int y :: .int x :: st) :=
  fun lsA H locs a b c e f g => lv_ishl F.1 F.2.1 hd (k lsA H locs a b c e f g)
theorem sd_ishr (F : FR o X E d n0 s0 nE sE) {x y : Int32} (hd : decode E.2.1 pc = .ok (.ishr, 1)) (k : WG o X L n0 s0 Q h (pc + 1) ls (.int (x >>> (y &&& 31)) :: st)) : WG o X L n0 s0 Q h pc ls (.int y :: .int x :: st) :=
  fun lsA H locs a b c e f g => lv_ishr F.1 F.2.1 hd (k lsA H locs a b c e f g)
theorem sd_iushr (F : FR o X E d n0 s0 nE sE) {x y : Int32} (hd : decode E.2.1 pc = .ok (.iushr, 1)) (k : WG o X L n0 s0 Q h (pc + 1) ls (.int (x.toUInt32 >>> (y.toUInt32 &&& Int32.toUInt32 31)).toInt32 :: st)) : WG o X L n0 s0 Q h pc ls (.int y :: .int x :: st) :=
  fun lsA H locs a b c e f g => lv_iushr F.1 F.2.1 hd rfl (k lsA H locs a b c e f g)
theorem sd_ladd (F : FR o X E d n0 s0 nE sE) {x y : Int64} (hd : decode E.2.1 pc = .ok (.ladd, 1)) (k : WG o X L n0 s0 Q h (pc + 1) ls (.long (x + y) :: st)) : WG o X L n0 s0 Q h pc ls (.long y :: .long x :: st) :=
  fun lsA H locs a b c e f g => lv_ladd F.1 F.2.1 hd (k lsA H locs a b c e f g)
theorem sd_lsub (F : FR o X E d n0 s0 nE sE) {x y : Int64} (hd : decode E.2.1 pc = .ok (.lsub, 1)) (k : WG o X L n0 s0 Q h (pc + 1) ls (.long (x - y) :: st)) : WG o X L n0 s0 Q h pc ls (.long y :: .long x :: st) :=
  fun lsA H locs a b c e f g => lv_lsub F.1 F.2.1 hd (k lsA H locs a b c e f g)
theorem sd_lmul (F : FR o X E d n0 s0 nE sE) {x y : Int64} (hd : decode E.2.1 pc = .ok (.lmul, 1)) (k : WG o X L n0 s0 Q h (pc + 1) ls (.long (x * y) :: st)) : WG o X L n0 s0 Q h pc ls (.long y :: .long x :: st) :=
  fun lsA H locs a b c e f g => lv_lmul F.1 F.2.1 hd (k lsA H locs a b c e f g)
theorem sd_ldiv (F : FR o X E d n0 s0 nE sE) {x y : Int64} (hd : decode E.2.1 pc = .ok (.ldiv, 1)) (h0 : ¬ y = 0) (k : WG o X L n0 s0 Q h (pc + 1) ls (.long (x / y) :: st)) : WG o X L n0 s0 Q h pc ls (.long y :: .long x :: st) :=
  fun lsA H locs a b c e f g => lv_ldiv F.1 F.2.1 hd h0 (k lsA H locs a b c e f g)
theorem sd_lcmp (F : FR o X E d n0 s0 nE sE) {x y : Int64} (hd : decode E.2.1 pc = .ok (.lcmp, 1)) (k : WG o X L n0 s0 Q h (pc + 1) ls (.int (lg_cmp x y) :: st)) : WG o X L n0 s0 Q h pc ls (.long y :: .long x :: st) :=
  fun lsA H locs a b c e f g => W.lcmp F.1 F.2.1 hd (k lsA H locs a b c e f g)
theorem sd_i2l (F : FR o X E d n0 s0 nE sE) {x : Int32} (hd : decode E.2.1 pc = .ok (.i2l, 1)) (k : WG o X L n0 s0 Q h (pc + 1) ls (.long x.toInt64 :: st)) : WG o X L n0 s0 Q h pc ls (.int x :: st) :=
  fun lsA H locs a b c e f g => lv_i2l F.1 F.2.1 hd rfl (k lsA H locs a b c e f g)
theorem sd_l2i (F : FR o X E d n0 s0 nE sE) {x : Int64} (hd : decode E.2.1 pc = .ok (.l2i, 1)) (k : WG o X L n0 s0 Q h (pc + 1) ls (.int x.toInt32 :: st)) : WG o X L n0 s0 Q h pc ls (.long x :: st) :=
  fun lsA H locs a b c e f g => lv_l2i F.1 F.2.1 hd rfl (k lsA H locs a b c e f g)
theorem sd_i2b (F : FR o X E d n0 s0 nE sE) {x : Int32} (hd : decode E.2.1 pc = .ok (.i2b, 1)) (k : WG o X L n0 s0 Q h (pc + 1) ls (.int x.toInt8.toInt32 :: st)) : WG o X L n0 s0 Q h pc ls (.int x :: st) :=
  fun lsA H locs a b c e f g => lv_i2b F.1 F.2.1 hd rfl (k lsA H locs a b c e f g)
theorem sd_dup (F : FR o X E d n0 s0 nE sE) {v : Value} (hc : v.category = 1) (hd : decode E.2.1 pc = .ok (.dup, 1)) (k : WG o X L n0 s0 Q h (pc + 1) ls (v :: v :: st)) : WG o X L n0 s0 Q h pc ls (v :: st) :=
  fun lsA H locs a b c e f g => lv_dup F.1 F.2.1 hd (by rw [trv_cat]; exact hc) (k lsA H locs a b c e f g)
theorem sd_pop (F : FR o X E d n0 s0 nE sE) {v : Value} (hc : v.category = 1) (hd : decode E.2.1 pc = .ok (.pop, 1)) (k : WG o X L n0 s0 Q h (pc + 1) ls st) : WG o X L n0 s0 Q h pc ls (v :: st) :=
  fun lsA H locs a b c e f g => lv_pop F.1 F.2.1 hd (by rw [trv_cat]; exact hc) (k lsA H locs a b c e f g)
theorem sd_dup2_11 (F : FR o X E d n0 s0 nE sE) {v w : Value} (hc : v.category = 1) (hc2 : w.category = 1) (hd : decode E.2.1 pc = .ok (.dup2, 1)) (k : WG o X L n0 s0 Q h (pc + 1) ls (v :: w :: v :: w :: st)) : WG o X L n0 s0 Q h pc ls (v :: w :: st) :=
  fun lsA H locs a b c e f g => lv_dup2_11 F.1 F.2.1 hd (by rw [trv_cat]; exact hc) (by rw [trv_cat]; exact hc2) (k lsA H locs a b c e f g)
theorem sd_goto (F : FR o X E d n0 s0 nE sE) {off : Int} {tgt : Nat} (hd : decode E.2.1 pc = .ok (.goto off, 3)) (ht : (pc : Int) + off = (tgt : Int)) (k : WG o X L n0 s0 Q h tgt ls st) : WG o X L n0 s0 Q h pc ls st :=
  fun lsA H locs a b c e f g => lv_goto F.1 F.2.1 hd ht (k lsA H locs a b c e f g)
theorem sd_null (F : FR o X E d n0 s0 nE sE) (hd : decode E.2.1 pc = .ok (.aconst_null, 1)) (k : WG o X L n0 s0 Q h (pc + 1) ls (.null :: st)) : WG o X L n0 s0 Q h pc ls st :=
  fun lsA H locs a b c e f g => lv_null F.1 F.2.1 hd (k lsA H locs a b c e f g)
theorem sd_ifnonnull (F : FR o X E d n0 s0 nE sE) {off : Int} {tgt : Nat} {x : Value} (hr : isR x = true) (hd : decode E.2.1 pc = .ok (.ifnonnull off, 3)) (ht : (pc : Int) + off = (tgt : Int)) (k : WG o X L n0 s0 Q h (if x = .null then pc + 3 else tgt) ls st) : WG o X L n0 s0 Q h pc ls (x :: st) := by
  intro lsA H locs a b c e f g
  have k := k lsA H locs a b c e f g
  rw [List.map_cons]
  by_cases hx : x = .null
  · subst hx
    rw [if_pos rfl] at k
    exact lv_ifnonnullN F.1 F.2.1 hd k
  · rw [if_neg hx] at k
    rcases isR_tr (o := o) hr with ⟨q, hq⟩ | hq
    · rw [hq]
      exact lv_ifnonnull F.1 F.2.1 hd ht k
    · exfalso
      cases x with
      | null => exact hx rfl
      | float u =>
        have hq : tflo o u.toNat = .null := hq
        have h1 : u.toNat ≠ 1 := of_decide_eq_true hr
        unfold tflo at hq
        rw [if_neg h1] at hq
        split at hq
        · cases hq
        · split at hq
          · cases hq
          · split at hq <;> cases hq
      | _ => cases hq
def cnd1 (cc : ClassFile.Cond) (x : Int32) : Bool := match cc with
  | .eq => decide (x = 0) | .ne => decide (¬ x = 0) | .lt => decide (x < 0) | .ge => decide (0 ≤ x) | .gt => decide (0 < x) | .le => decide (x ≤ 0)
def cnd2 (cc : ClassFile.Cond) (x y : Int32) : Bool := match cc with
  | .eq => decide (x = y) | .ne => decide (¬ x = y) | .lt => decide (x < y) | .ge => decide (y ≤ x) | .gt => decide (y < x) | .le => decide (x ≤ y)
theorem sd_if (F : FR o X E d n0 s0 nE sE) {cc : ClassFile.Cond} {off : Int} {tgt : Nat} {x : Int32} (hd : decode E.2.1 pc = .ok (.ifCond cc off, 3)) (ht : (pc : Int) + off = (tgt : Int)) (k : WG o X L n0 s0 Q h (if cnd1 cc x = true then tgt else pc + 3) ls st) : WG o X L n0 s0 Q h pc ls (.int x :: st) := by
  intro lsA H locs a b c e f g
  have k := k lsA H locs a b c e f g
  cases cc
  · exact lv_if_eq F.1 F.2.1 hd ht (fun z => by have e9 : cnd1 ClassFile.Cond.eq x = true := decide_eq_true z; rw [if_pos e9] at k; exact k) (fun z => by have e9 : ¬ cnd1 ClassFile.Cond.eq x = true := (by simpa [cnd1] using z); rw [if_neg e9] at k; exact k)
  · exact lv_if_ne F.1 F.2.1 hd ht (fun z => by have e9 : cnd1 ClassFile.Cond.ne x = true := decide_eq_true z; rw [if_pos e9] at k; exact k) (fun z => by have e9 : ¬ cnd1 ClassFile.Cond.ne x = true := (by simpa [cnd1] using z); rw [if_neg e9] at k; exact k)
  · exact lv_if_lt F.1 F.2.1 hd ht (fun z => by have e9 : cnd1 ClassFile.Cond.lt x = true := decide_eq_true z; rw [if_pos e9] at k; exact k) (fun z => by have e9 : ¬ cnd1 ClassFile.Cond.lt x = true := (by simpa [cnd1] using z); rw [if_neg e9] at k; exact k)
  · exact lv_if_ge F.1 F.2.1 hd ht (fun z => by have e9 : cnd1 ClassFile.Cond.ge x = true := decide_eq_true z; rw [if_pos e9] at k; exact k) (fun z => by have e9 : ¬ cnd1 ClassFile.Cond.ge x = true := (by simpa [cnd1] using z); rw [if_neg e9] at k; exact k)
  · exact lv_if_gt F.1 F.2.1 hd ht (fun z => by have e9 : cnd1 ClassFile.Cond.gt x = true := decide_eq_true z; rw [if_pos e9] at k; exact k) (fun z => by have e9 : ¬ cnd1 ClassFile.Cond.gt x = true := (by simpa [cnd1] using z); rw [if_neg e9] at k; exact k)
  · exact lv_if_le F.1 F.2.1 hd ht (fun z => by have e9 : cnd1 ClassFile.Cond.le x = true := decide_eq_true z; rw [if_pos e9] at k; exact k) (fun z => by have e9 : ¬ cnd1 ClassFile.Cond.le x = true := (by simpa [cnd1] using z); rw [if_neg e9] at k; exact k)
theorem sd_icmp (F : FR o X E d n0 s0 nE sE) {cc : ClassFile.Cond} {off : Int} {tgt : Nat} {x y : Int32} (hd : decode E.2.1 pc = .ok (.if_icmp cc off, 3)) (ht : (pc : Int) + off = (tgt : Int)) (k : WG o X L n0 s0 Q h (if cnd2 cc x y = true then tgt else pc + 3) ls st) : WG o X L n0 s0 Q h pc ls (.int y :: .int x :: st) := by
  intro lsA H locs a b c e f g
  have k := k lsA H locs a b c e f g
  cases cc
  · exact lv_icmp_eq F.1 F.2.1 hd ht (fun z => by have e9 : cnd2 ClassFile.Cond.eq x y = true := decide_eq_true z; rw [if_pos e9] at k; exact k) (fun z => by have e9 : ¬ cnd2 ClassFile.Cond.eq x y = true := (by simpa [cnd2] using z); rw [if_neg e9] at k; exact k)
  · exact lv_icmp_ne F.1 F.2.1 hd ht (fun z => by have e9 : cnd2 ClassFile.Cond.ne x y = true := decide_eq_true z; rw [if_pos e9] at k; exact k) (fun z => by have e9 : ¬ cnd2 ClassFile.Cond.ne x y = true := (by simpa [cnd2] using z); rw [if_neg e9] at k; exact k)
  · exact lv_icmp_lt F.1 F.2.1 hd ht (fun z => by have e9 : cnd2 ClassFile.Cond.lt x y = true := decide_eq_true z; rw [if_pos e9] at k; exact k) (fun z => by have e9 : ¬ cnd2 ClassFile.Cond.lt x y = true := (by simpa [cnd2] using z); rw [if_neg e9] at k; exact k)
  · exact lv_icmp_ge F.1 F.2.1 hd ht (fun z => by have e9 : cnd2 ClassFile.Cond.ge x y = true := decide_eq_true z; rw [if_pos e9] at k; exact k) (fun z => by have e9 : ¬ cnd2 ClassFile.Cond.ge x y = true := (by simpa [cnd2] using z); rw [if_neg e9] at k; exact k)
  · exact lv_icmp_gt F.1 F.2.1 hd ht (fun z => by have e9 : cnd2 ClassFile.Cond.gt x y = true := decide_eq_true z; rw [if_pos e9] at k; exact k) (fun z => by have e9 : ¬ cnd2 ClassFile.Cond.gt x y = true := (by simpa [cnd2] using z); rw [if_neg e9] at k; exact k)
  · exact lv_icmp_le F.1 F.2.1 hd ht (fun z => by have e9 : cnd2 ClassFile.Cond.le x y = true := decide_eq_true z; rw [if_pos e9] at k; exact k) (fun z => by have e9 : ¬ cnd2 ClassFile.Cond.le x y = true := (by simpa [cnd2] using z); rw [if_neg e9] at k; exact k)
theorem sd_tsw (F : FR o X E d n0 s0 nE sE) {df lo hi : Int} {offs : Array Int} {len tgt : Nat} {x : Int32} (hd : decode E.2.1 pc = .ok (.tableswitch df lo hi offs, len))
    (ht : (if x.toInt < lo ∨ hi < x.toInt then some ((pc : Int) + df) else (offs[(x.toInt - lo).toNat]?).map (fun f => (pc : Int) + f)) = some (tgt : Int)) (k : WG o X L n0 s0 Q h tgt ls st) : WG o X L n0 s0 Q h pc ls (.int x :: st) := by
  intro lsA H locs a b c e f g
  have k := k lsA H locs a b c e f g
  by_cases hc : x.toInt < lo ∨ hi < x.toInt
  · rw [if_pos hc] at ht
    exact lv_tableOut F.1 F.2.1 hd hc (Option.some.inj ht) k
  · rw [if_neg hc] at ht
    obtain ⟨h1, h2⟩ := not_or.mp hc
    cases ho : offs[(x.toInt - lo).toNat]? with
    | none => rw [ho] at ht; cases ht
    | some off =>
      rw [ho] at ht
      exact lv_tableIn F.1 F.2.1 hd h1 h2 ho (Option.some.inj ht) k
end P1
