/-! SOUNDNESS, part 2: instructions on the heap -/
theorem mem_lwG {i : Nat} {w : Cond} (h : lw_tbl[i]? = some w) (hg : goodWord w = true) : w ∈ lwG := List.mem_filter.mpr ⟨List.mem_of_getElem? h, hg⟩
theorem mem_ngW {i : Nat} {w : Cond} (h : lw_tbl[i]? = some w) (hg : ngK w = true) : w ∈ ngW := List.mem_filter.mpr ⟨List.mem_of_getElem? h, hg⟩
theorem all_of {α : Type} {f : α → Bool} {l : List α} (h : l.all f = true) {a : α} (ha : a ∈ l) : f a = true := List.all_eq_true.mp h a ha
theorem nI_ofNat (n : Nat) : Int32.ofNat n = nI n := rfl
theorem option_map_add_inj {b : Nat} {x : Option Nat} : va_rf (x.map (fun a => b + a)) = match x with | some a => .ref (b + a) | none => .null := by cases x <;> rfl
section P2
variable {o : OM} {X : CX} {E : MI} {d n0 s0 nE sE L : Nat} {Q : State → Prop} {h : AH} {pc : Nat} {ls : aLS} {st : List Value}
theorem FR.w (F : FR o X E d n0 s0 nE sE) {i : Nat} {w : Cond} (h : lw_tbl[i]? = some w) (hg : goodWord w = true) : w.before (xa X) (xs X) = true := F.2.2.2.2.2.2.2.2.2.1 w (mem_lwG h hg)
theorem FR.wf (F : FR o X E d n0 s0 nE sE) : WF o (xs X) (xs X).heap := F.2.2.2.2.2.2.2.2.2.2.1
theorem FR.we (F : FR o X E d n0 s0 nE sE) : WE o (xs X) (xs X).heap := F.wf.2.2.2.2.2.2.2.2.2.2.2.2.2.2.2.2.2.2
theorem FR.own (F : FR o X E d n0 s0 nE sE) : (xs X).vm.findClass (cR E.2.2.2.2.1) = some (xm X).cls := F.2.2.2.2.1
theorem FR.hts (F : FR o X E d n0 s0 nE sE) : ∀ w ∈ lwG, w.before (xa X) (xs X) = true := F.2.2.2.2.2.2.2.2.2.1
theorem FR.ml (F : FR o X E d n0 s0 nE sE) : (xc X).maxLocals = E.2.2.1 := F.2.2.1
theorem FR.lb (F : FR o X E d n0 s0 nE sE) : oL o ≤ (xs X).heap.size := F.2.2.2.2.2.2.2.2.2.2.2.1
theorem FR.fr (F : FR o X E d n0 s0 nE sE) : d ≤ (xR X).frames := F.2.2.2.2.2.2.2.2.2.2.2.2.1
theorem FR.lo (F : FR o X E d n0 s0 nE sE) : 60 * d + 60 ≤ (xR X).locals := F.2.2.2.2.2.2.2.2.2.2.2.2.2.1
theorem FR.ce (F : FR o X E d n0 s0 nE sE) : nE ≤ n0 + (xR X).cells := F.2.2.2.2.2.2.2.2.2.2.2.2.2.2.1
theorem FR.sl (F : FR o X E d n0 s0 nE sE) : sE ≤ s0 + (xR X).slots := F.2.2.2.2.2.2.2.2.2.2.2.2.2.2.2
theorem FR.ng (F : FR o X E d n0 s0 nE sE) {i : Nat} {w : Cond} (h : lw_tbl[i]? = some w) (hg : ngK w = true) (ht : w.onTables = true) : w.before (xa X) (xs X) = true := va_Nw.use ht (F.wf.2.2.2.2.2.2.2.2.2.2.2.2.2.2.1 w (mem_ngW h hg))
/-- the abstract object in the machine -/
theorem FR.obj (F : FR o X E d n0 s0 nE sE) {H : Heap} (R : aRel o h H) {a cj : Nat} (ha : hk h a = kc cj) (hc : cj < 12) (hc2 : vwCl[cj]? = some (cR cj, cT cj, cNf cj)) :
    ∃ cell : Cell, H[oB o + a]? = some cell ∧ cell.cls = (oD o).1 cj ∧ cell.vm = .none ∧ ∀ k, k < cNf cj → cell.slots[(oD o).2 cj k]? = some (trv o (hF h a k)) := by
  obtain ⟨r, h1, cell, h2, h3, h4, h5⟩ := (R.2.2.1 a (R.lt (by have := kc_rng cj; omega))).1 cj ha hc
  cases Option.some.inj (h1.symm.trans hc2)
  exact ⟨cell, h2, h3, h4, h5⟩
theorem sd_getfield (F : FR o X E d n0 s0 nE sE) {i a wi cj k : Nat} {nest : Bool} {host : String} (hd : decode E.2.1 pc = .ok (.getfield i, 3)) (hL : look (E.2.2.2.2.1, i) fldT = some (wi, nest, cj, k, host)) (ha : hk h a = kc cj)
    (kk : WG o X L n0 s0 Q h (pc + 3) ls (hF h a k :: st)) : WG o X L n0 s0 Q h pc ls (.ref a :: st) := by
  intro lsA H locs q1 q2 q3 q4 q5 q6
  have kk := kk lsA H locs q1 q2 q3 q4 q5 q6
  have ok := all_of fldT_ok (look_mem hL)
  simp only [Bool.and_eq_true, decide_eq_true_eq] at ok
  obtain ⟨o1, o2, o3⟩ := ok
  obtain ⟨c1, c2, c3, c4⟩ := clsF cj o2
  obtain ⟨cell, e1, e2, e3, e4⟩ := F.obj q3 ha (by omega) c1
  obtain ⟨hS, hfc, kC, hkC, hkind⟩ := F.wf.1.1 cj _ c1
  obtain ⟨cf, kf, fi, f, hi, hsl⟩ := hS k o3
  have hst := (u_facts hfc hkC (u_lays F.hts c2 o3) hi).1
  have hsame : (xs X).fieldFound? (cT cj k).1 (cT cj k).2.1 (cT cj k).2.2.1 = some (cf, kf, fi, f) := hi
  cases nest with
  | false => exact W.getf F.1 F.2.1 F.own (F.w o1 rfl) hsame hst e1 (by rw [e3]; exact fun z => by cases z) (by rw [hsl]; exact e4 k o3) rfl rfl hd kk
  | true => exact va_Wgetf F.1 F.2.1 F.own (F.ng o1 rfl rfl) hsame hst e1 (by rw [e3]; exact fun z => by cases z) (by rw [hsl]; exact e4 k o3) rfl rfl hd kk
/-- a store into an object's field keeps the relation -/
theorem aRel.putF {o : OM} {h : AH} {H H1 : Heap} {a cj k : Nat} {v : Value} {cell : Cell} {S : Nat → Nat} (R : aRel o h H) (ha : hk h a = kc cj) (hc : cj < 12) (c1 : vwCl[cj]? = some (cR cj, cT cj, cNf cj)) (hk1 : k < cNf cj) (hS : S = (oD o).2 cj)
    (e2 : cell.cls = (oD o).1 cj) (e3 : cell.vm = .none) (e4 : ∀ k, k < cNf cj → cell.slots[S k]? = some (trv o (hF h a k))) (hap : ∀ x y, x < cNf cj → y < cNf cj → x ≠ y → S x ≠ S y)
    (e1 : H1[oB o + a]? = some (cell.setSlot (S k) (trv o v))) (z : H1.size = H.size) (oq : ∀ q, q ≠ oB o + a → H1[q]? = H[q]?) : aRel o (wF h a k v) H1 := by
  refine R.set rfl (fun _ => rfl) (fun _ => rfl) rfl z oq (fun i hi j => if_neg (fun q => hi q.1)) (fun _ _ => rfl) (fun _ _ => rfl) (fun _ _ => rfl) (fun _ => ?_)
  have ne : ∀ n : Nat, 10 ≤ n → n ≤ 16 → ∀ {B : Prop}, hk (wF h a k v) a = n → B := fun n hn hn2 B q => absurd (show hk h a = n from q) (by have := kc_rng cj; omega)
  refine ⟨fun ci h1 h2 => ?_, ne 10 (by omega) (by omega), ne 11 (by omega) (by omega), ne 12 (by omega) (by omega), fun kd g1 g2 => ne kd (by omega) g2⟩
  have h1 : hk h a = kc ci := h1
  have e : ci = cj := kc_inj (h1.symm.trans ha)
  subst e
  refine ⟨_, c1, ?_⟩
  refine t_OB.to (V := updV (fun k => trv o (hF h a k)) k (trv o v)) ⟨_, e1, e2, e3, by rw [← hS]; exact t_set e4 hap hk1 (trv o v)⟩ (fun j _ => ?_)
  by_cases hj : j = k
  · subst hj
    show (if j = j then trv o v else _) = trv o (if a = a ∧ j = j then v else _)
    rw [if_pos rfl, if_pos ⟨rfl, rfl⟩]
  · show (if j = k then trv o v else _) = trv o (if a = a ∧ j = k then v else _)
    rw [if_neg hj, if_neg (fun q => hj q.2)]
    rfl
/-- a value that a field of this type takes -/
def okv (ty : FieldType) (v : Value) : Bool := match ty, v with
  | .int, .int _ => true
  | .boolean, .int x => decide (x = 0) || decide (x = 1)
  | .long, .long _ => true
  | .object _, .ref _ => true
  | .array _, .ref _ => true
  | .object _, .null => true
  | .array _, .null => true
  | .byte, .int x => decide (x = 0)
  | .object _, .float u => decide (u.toNat ≠ 1)
  | _, _ => false
theorem okv_tr {o : OM} {ty : FieldType} {v : Value} (h : okv ty v = true) : narrow ty (trv o v) = trv o v ∧ fits ty (trv o v) = true := by
  unfold okv at h
  split at h
  · exact ⟨rfl, rfl⟩
  · simp only [Bool.or_eq_true, decide_eq_true_eq] at h
    rcases h with rfl | rfl <;> exact ⟨rfl, rfl⟩
  · exact ⟨rfl, rfl⟩
  · exact ⟨rfl, rfl⟩
  · exact ⟨rfl, rfl⟩
  · exact ⟨rfl, rfl⟩
  · exact ⟨rfl, rfl⟩
  · rw [of_decide_eq_true h]; exact ⟨rfl, rfl⟩
  · rename_i u
    rcases isR_tr (o := o) (v := .float u) h with ⟨q, hq⟩ | hq
    · rw [hq]; exact ⟨rfl, rfl⟩
    · rw [hq]; exact ⟨rfl, rfl⟩
  · cases h
theorem sd_putfield (F : FR o X E d n0 s0 nE sE) {i a wi cj k : Nat} {nest : Bool} {host : String} {v : Value} (hd : decode E.2.1 pc = .ok (.putfield i, 3)) (hL : look (E.2.2.2.2.1, i) fldT = some (wi, nest, cj, k, host)) (ha : hk h a = kc cj) (hv : okv (cY cj k) v = true)
    (hf : (cT cj k).2.2.2 = false ∨ (nest = false ∧ E.1.name = "<init>" ∧ cj = E.2.2.2.2.1)) (kk : WG o X L n0 s0 Q (wF h a k v) (pc + 3) ls st) : WG o X L n0 s0 Q h pc ls (v :: .ref a :: st) := by
  intro lsA H locs q1 q2 q3 q4 q5 q6
  have ok := all_of fldT_ok (look_mem hL)
  simp only [Bool.and_eq_true, decide_eq_true_eq] at ok
  obtain ⟨o1, o2, o3⟩ := ok
  obtain ⟨c1, c2, c3, c4⟩ := clsF cj o2
  obtain ⟨cell, e1, e2, e3, e4⟩ := F.obj q3 ha (by omega) c1
  have hap := va_apart (own := cR E.2.2.2.2.1) F.hts c2 (cY cj) c3 c4 F.wf.1 c1
  obtain ⟨hSl, hfc, kC, hkC, hkind⟩ := F.wf.1.1 cj _ c1
  obtain ⟨cf, kf, fi, f, hi, hsl⟩ := hSl k o3
  have hst := (u_facts hfc hkC (u_lays F.hts c2 o3) hi).1
  have hsame : (xs X).fieldFound? (cT cj k).1 (cT cj k).2.1 (cT cj k).2.2.1 = some (cf, kf, fi, f) := hi
  have hlay := F.hts _ (c2 _ (u_in_lay o3))
  obtain ⟨hn, hfit⟩ := okv_tr (o := o) hv
  have go : ∀ H' : Heap, H'[oB o + a]? = some (cell.setSlot f.slot (trv o v)) → H'.size = H.size → (∀ q, q ≠ oB o + a → H'[q]? = H[q]?) →
      W (xp X) (xl X) (xe X) (xR X) (xs X) (xm X) (xa X) (xb X) (xM X) (xc X) H' (locs ++ [⟨oB o + a, f.slot⟩]) (oO o + hN h - n0) (hS h - s0) Q (F0 (xm X) (pc + 3) lsA (st.map (trv o))) := by
    intro H' g1 g2 g3
    rw [hsl] at g1 ⊢
    exact kk lsA H' _ q1 q2 (q3.putF ha (by omega) c1 o3 rfl e2 e3 e4 hap g1 g2 g3) (q4.put g2 g3 (oLB _ _)) q5 q6
  rcases hf with hf | ⟨rfl, hf, hcj⟩
  · unfold u_lay at hlay
    rw [if_neg (by rw [hf]; decide)] at hlay
    have h6 := u_store hfc hkC hkind hlay hi (c3 k o3) hn hfit
    cases nest with
    | false => exact W.putK F.1 F.2.1 (f := f) ⟨F.own, F.w o1 rfl, ⟨_, _, _, hsame⟩, hst⟩ (by rw [e2]; exact h6) e1 e3 (by rw [hsl]; exact k2_hasslot (e4 k o3)) rfl rfl hd go
    | true => exact va_WputK F.1 F.2.1 (f := f) F.own (F.ng o1 rfl rfl) hsame hst (by rw [e2]; exact h6) e1 e3 (by rw [hsl]; exact k2_hasslot (e4 k o3)) rfl rfl hd go
  · unfold u_lay at hlay
    by_cases hfin : (cT cj k).2.2.2 = true
    · rw [if_pos hfin] at hlay
      have hcf : (xm X).cls = cf := by
        obtain ⟨_, _, c', _, _, _, -, -, hf', -, -, -, hown2, -⟩ := Cond.laysFinal_spec hlay
        have e1 : c' = cf := by have := hi.symm.trans hf'; simp at this; exact this.1.symm
        rw [finD cj o2 k o3 hfin, hcj] at hown2
        rw [← e1]; exact Option.some.inj (F.own.symm.trans hown2)
      have h6 := u_fits hfc hkC hkind (Or.inr hlay) hi (c3 k o3) hn hfit
      exact W.putFinK F.1 F.2.1 F.own (F.w o1 rfl) hsame hst hcf (F.2.2.2.2.2.2.1 hf) (by rw [e2]; exact h6) e1 e3 (by rw [hsl]; exact k2_hasslot (e4 k o3)) rfl rfl hd go
    · have hf0 : (cT cj k).2.2.2 = false := by simpa using hfin
      rw [if_neg hfin] at hlay
      have h6 := u_store hfc hkC hkind hlay hi (c3 k o3) hn hfit
      exact W.putK F.1 F.2.1 (f := f) ⟨F.own, F.w o1 rfl, ⟨_, _, _, hsame⟩, hst⟩ (by rw [e2]; exact h6) e1 e3 (by rw [hsl]; exact k2_hasslot (e4 k o3)) rfl rfl hd go
/-- an index in its row -/
theorem vp_not {i : Int32} {n : Nat} (h : vp_in i n) : i.toNatClampNeg < n := Nat.not_le.mp fun q => h (Or.inr q)
theorem sd_iaload (F : FR o X E d n0 s0 nE sE) {a : Nat} {i : Int32} (hd : decode E.2.1 pc = .ok (.iaload, 1)) (ha : hk h a = 10) (hin : vp_in i (hl h a)) (kk : WG o X L n0 s0 Q h (pc + 1) ls (.int (hA h a i.toNatClampNeg) :: st)) : WG o X L n0 s0 Q h pc ls (.int i :: .ref a :: st) := by
  intro lsA H locs q1 q2 q3 q4 q5 q6
  have hc := (q3.2.2.1 a (q3.lt (by omega))).2.1 ha
  exact W.iald (v := .int (hA h a i.toNatClampNeg)) F.1 F.2.1 hc (F.wf.2.1.1 (hl h a) (fun j => .int (hA h a j))) (fun q => by cases q) (by rw [arrV_size]; exact hin) (by rw [arrV_read _ _ (vp_not hin)]) rfl rfl hd (kk lsA H locs q1 q2 q3 q4 q5 q6)
theorem sd_baload (F : FR o X E d n0 s0 nE sE) {a : Nat} {i : Int32} (hd : decode E.2.1 pc = .ok (.baload, 1)) (ha : hk h a = 11) (hin : vp_in i (hl h a)) (kk : WG o X L n0 s0 Q h (pc + 1) ls (.int (hA h a i.toNatClampNeg) :: st)) : WG o X L n0 s0 Q h pc ls (.int i :: .ref a :: st) := by
  intro lsA H locs q1 q2 q3 q4 q5 q6
  have hc := (q3.2.2.1 a (q3.lt (by omega))).2.2.1 ha
  exact W.bald (v := .int (hA h a i.toNatClampNeg)) F.1 F.2.1 hc (F.wf.2.2.1.1 (hl h a) (fun j => .int (hA h a j))) (fun q => by cases q) (by rw [arrV_size]; exact hin) (by rw [arrV_read _ _ (vp_not hin)]) rfl rfl hd (kk lsA H locs q1 q2 q3 q4 q5 q6)
theorem sd_laload (F : FR o X E d n0 s0 nE sE) {a : Nat} {i : Int32} (hd : decode E.2.1 pc = .ok (.laload, 1)) (ha : hk h a = 12) (hin : vp_in i (hl h a)) (kk : WG o X L n0 s0 Q h (pc + 1) ls (.long (hJ h a i.toNatClampNeg) :: st)) : WG o X L n0 s0 Q h pc ls (.int i :: .ref a :: st) := by
  intro lsA H locs q1 q2 q3 q4 q5 q6
  have hc := (q3.2.2.1 a (q3.lt (by omega))).2.2.2.1 ha
  exact W.lald (v := .long (hJ h a i.toNatClampNeg)) F.1 F.2.1 hc (F.wf.2.2.2.1.1 (hl h a) (fun j => .long (hJ h a j))) (fun q => by cases q) (by rw [arrV_size]; exact hin) (by rw [arrV_read _ _ (vp_not hin)]) rfl rfl hd (kk lsA H locs q1 q2 q3 q4 q5 q6)
/-- what an array of references gives -/
def orv : Option Nat → Value
  | some a => .ref a
  | none => .null
theorem orv_tr (x : Option Nat) : trv o (orv x) = va_rf (x.map (fun a => oB o + a)) := by cases x <;> rfl
theorem FR.arq (F : FR o X E d n0 s0 nE sE) {kd : Nat} (h1 : 13 ≤ kd) (h2 : kd ≤ 16) : ∃ ty : FieldType, ArrOfT (xs X) (oT o kd) ty ∧ va_RA (xs X) (oT o kd) ty ∧ ty.isReference = true := by
  rcases (show kd = 13 ∨ kd = 14 ∨ kd = 15 ∨ kd = 16 by omega) with rfl | rfl | rfl | rfl
  · exact ⟨_, F.wf.2.2.2.2.1.1, F.wf.2.2.2.2.1.2, rfl⟩
  · exact ⟨_, F.wf.2.2.2.2.2.1.1, F.wf.2.2.2.2.2.1.2, rfl⟩
  · exact ⟨_, F.we.1.1, F.we.1.2, rfl⟩
  · exact ⟨_, F.we.2.1.1, F.we.2.1.2, rfl⟩
theorem sd_aaload (F : FR o X E d n0 s0 nE sE) {a : Nat} {i : Int32} (hd : decode E.2.1 pc = .ok (.aaload, 1)) (ha : 13 ≤ hk h a ∧ hk h a ≤ 16) (hin : vp_in i (hl h a)) (kk : WG o X L n0 s0 Q h (pc + 1) ls (orv (hR h a i.toNatClampNeg) :: st)) : WG o X L n0 s0 Q h pc ls (.int i :: .ref a :: st) := by
  intro lsA H locs q1 q2 q3 q4 q5 q6
  have kk := kk lsA H locs q1 q2 q3 q4 q5 q6
  rw [List.map_cons, orv_tr] at kk
  have hc := (q3.2.2.1 a (q3.lt (by omega))).2.2.2.2 _ ha.1 ha.2 rfl
  obtain ⟨ty, w1, -, w9⟩ := F.arq ha.1 ha.2
  exact W.aald (v := va_rf ((hR h a i.toNatClampNeg).map (fun a => oB o + a))) F.1 F.2.1 hc (w1 (hl h a) (fun j => va_rf ((hR h a j).map (fun a => oB o + a)))) w9 (fun q => by cases q) (by rw [arrV_size]; exact hin) (by rw [arrV_read _ _ (vp_not hin)]) rfl rfl hd kk
theorem aRel.setA {H H1 : Heap} {a : Nat} {f : Nat → Int32} (R : aRel o h H) (ha : hk h a = 10 ∨ hk h a = 11) (e1 : hk h a = 10 → H1[oB o + a]? = some (arrV (oT o 10) (hl h a) (fun j => .int (f j)))) (e1b : hk h a = 11 → H1[oB o + a]? = some (arrV (oT o 11) (hl h a) (fun j => .int (f j)))) (z : H1.size = H.size) (oq : ∀ q, q ≠ oB o + a → H1[q]? = H[q]?) : aRel o (wA h a f) H1 := by
  refine R.set rfl (fun _ => rfl) (fun _ => rfl) rfl z oq (fun _ _ _ => rfl) (fun i hi => if_neg hi) (fun _ _ => rfl) (fun _ _ => rfl) (fun _ => ?_)
  have ne : ∀ n : Nat, n ≠ 10 → n ≠ 11 → ∀ {B : Prop}, hk (wA h a f) a = n → B := fun n g1 g2 B q => absurd (show hk h a = n from q) (by omega)
  have eA : hA (wA h a f) a = f := if_pos rfl
  refine ⟨fun ci h1 h2 => ne _ (by have := kc_rng ci; omega) (by have := kc_rng ci; omega) h1, fun q => ?_, fun q => ?_, ne 12 (by omega) (by omega), fun kd g1 g2 => ne kd (by omega) (by omega)⟩
  · rw [eA]; exact e1 q
  · rw [eA]; exact e1b q
theorem upd_V {f : Nat → Int32} {k : Nat} {x : Int32} : updV (fun j => Value.int (f j)) k (.int x) = fun j => .int (upd f k x j) := by
  funext j
  by_cases e : j = k
  · subst e; simp [updV, upd]
  · simp [updV, upd, e]
theorem sd_iastore (F : FR o X E d n0 s0 nE sE) {a : Nat} {i x : Int32} (hd : decode E.2.1 pc = .ok (.iastore, 1)) (ha : hk h a = 10) (hin : vp_in i (hl h a)) (kk : WG o X L n0 s0 Q (wA h a (upd (hA h a) i.toNatClampNeg x)) (pc + 1) ls st) : WG o X L n0 s0 Q h pc ls (.int x :: .int i :: .ref a :: st) := by
  intro lsA H locs q1 q2 q3 q4 q5 q6
  have hc := (q3.2.2.1 a (q3.lt (by omega))).2.1 ha
  refine W.iast F.1 F.2.1 hc (F.wf.2.1.1 (hl h a) (fun j => .int (hA h a j))) (fun q => by cases q) (by rw [arrV_size]; exact hin) rfl rfl hd fun H1 e z oq => ?_
  refine kk lsA H1 _ q1 q2 (q3.setA (Or.inl ha) (fun _ => ?_) (fun q => by omega) z oq) (q4.put z oq (oLB _ _)) q5 q6
  rw [e, arrV_store, upd_V]
theorem sd_bastore (F : FR o X E d n0 s0 nE sE) {a : Nat} {i x : Int32} (hd : decode E.2.1 pc = .ok (.bastore, 1)) (ha : hk h a = 11) (hin : vp_in i (hl h a)) (kk : WG o X L n0 s0 Q (wA h a (upd (hA h a) i.toNatClampNeg x.toInt8.toInt32)) (pc + 1) ls st) : WG o X L n0 s0 Q h pc ls (.int x :: .int i :: .ref a :: st) := by
  intro lsA H locs q1 q2 q3 q4 q5 q6
  have hc := (q3.2.2.1 a (q3.lt (by omega))).2.2.1 ha
  refine W.bast F.1 F.2.1 hc (F.wf.2.2.1.1 (hl h a) (fun j => .int (hA h a j))) (fun q => by cases q) (by rw [arrV_size]; exact hin) rfl rfl hd fun H1 e z oq => ?_
  refine kk lsA H1 _ q1 q2 (q3.setA (Or.inr ha) (fun q => by omega) (fun _ => ?_) z oq) (q4.put z oq (oLB _ _)) q5 q6
  rw [e, narrow_byte, arrV_store, upd_V]
theorem updL_V {f : Nat → Int64} {k : Nat} {x : Int64} : updV (fun j => Value.long (f j)) k (.long x) = fun j => .long (vp_updL f k x j) := by
  funext j
  by_cases e : j = k
  · subst e; simp [updV, vp_updL]
  · simp [updV, vp_updL, e]
theorem sd_lastore (F : FR o X E d n0 s0 nE sE) {a : Nat} {i : Int32} {x : Int64} (hd : decode E.2.1 pc = .ok (.lastore, 1)) (ha : hk h a = 12) (hin : vp_in i (hl h a)) (kk : WG o X L n0 s0 Q (wJ h a (vp_updL (hJ h a) i.toNatClampNeg x)) (pc + 1) ls st) : WG o X L n0 s0 Q h pc ls (.long x :: .int i :: .ref a :: st) := by
  intro lsA H locs q1 q2 q3 q4 q5 q6
  have hc := (q3.2.2.1 a (q3.lt (by omega))).2.2.2.1 ha
  refine W.last F.1 F.2.1 hc (F.wf.2.2.2.1.1 (hl h a) (fun j => .long (hJ h a j))) (fun q => by cases q) (by rw [arrV_size]; exact hin) rfl rfl hd fun H1 e z oq => ?_
  refine kk lsA H1 _ q1 q2 ?_ (q4.put z oq (oLB _ _)) q5 q6
  refine q3.set rfl (fun _ => rfl) (fun _ => rfl) rfl z oq (fun _ _ _ => rfl) (fun _ _ => rfl) (fun j hj => if_neg hj) (fun _ _ => rfl) (fun _ => ?_)
  have ne : ∀ n : Nat, n ≠ 12 → ∀ {B : Prop}, hk (wJ h a (vp_updL (hJ h a) i.toNatClampNeg x)) a = n → B := fun n g1 B q => absurd (show hk h a = n from q) (by omega)
  refine ⟨fun ci h1 h2 => ne _ (by have := kc_rng ci; omega) h1, ne 10 (by omega), ne 11 (by omega), fun q => ?_, fun kd g1 g2 => ne kd (by omega)⟩
  have eJ : hJ (wJ h a (vp_updL (hJ h a) i.toNatClampNeg x)) a = vp_updL (hJ h a) i.toNatClampNeg x := if_pos rfl
  rw [eJ, e, arrV_store, updL_V]
  rfl
theorem aRel.setR {H H1 : Heap} {a kd : Nat} {f : Nat → Option Nat} (R : aRel o h H) (g1 : 13 ≤ kd) (g2 : kd ≤ 16) (ha : hk h a = kd) (e1 : H1[oB o + a]? = some (arrV (oT o kd) (hl h a) (fun j => va_rf ((f j).map (fun a => oB o + a))))) (z : H1.size = H.size) (oq : ∀ q, q ≠ oB o + a → H1[q]? = H[q]?) : aRel o (wR h a f) H1 := by
  refine R.set rfl (fun _ => rfl) (fun _ => rfl) rfl z oq (fun _ _ _ => rfl) (fun _ _ => rfl) (fun _ _ => rfl) (fun j hj => if_neg hj) (fun _ => ?_)
  have ne : ∀ n : Nat, n ≠ kd → ∀ {B : Prop}, hk (wR h a f) a = n → B := fun n g1 B q => absurd (show hk h a = n from q) (by omega)
  refine ⟨fun ci h1 h2 => ne _ (by have := kc_rng ci; omega) h1, ne 10 (by omega), ne 11 (by omega), ne 12 (by omega), fun k2 g3 g4 q => ?_⟩
  have e : k2 = kd := q.symm.trans ha
  subst e
  have eR : hR (wR h a f) a = f := if_pos rfl
  rw [eR]
  exact e1
/-- a reference stored into a row of objects: kind 13 holds class 2, 15 class 9, 16 class 6 -/
def elc (kd : Nat) : Nat := if kd = 13 then 2 else if kd = 15 then 9 else 6
theorem up_V {f : Nat → Option Nat} {i : Nat} {x : Option Nat} : updV (fun j => va_rf ((f j).map (fun a => oB o + a))) i (va_rf (x.map (fun a => oB o + a))) = fun j => va_rf ((va_up f i x j).map (fun a => oB o + a)) := by
  funext j
  by_cases ej : j = i
  · subst ej; simp [updV, va_up]
  · simp [updV, va_up, ej]
theorem sd_aastore (F : FR o X E d n0 s0 nE sE) {a v kd : Nat} {i : Int32} (hd : decode E.2.1 pc = .ok (.aastore, 1)) (hkd : kd = 13 ∨ kd = 15 ∨ kd = 16) (ha : hk h a = kd) (hv : hk h v = kc (elc kd)) (hin : vp_in i (hl h a)) (kk : WG o X L n0 s0 Q (wR h a (va_up (hR h a) i.toNatClampNeg (some v))) (pc + 1) ls st) : WG o X L n0 s0 Q h pc ls (.ref v :: .int i :: .ref a :: st) := by
  intro lsA H locs q1 q2 q3 q4 q5 q6
  have hlt := vp_not hin
  have h0 : ¬ i < 0 := fun q => hin (Or.inl q)
  have hc := (q3.2.2.1 a (q3.lt (by omega))).2.2.2.2 kd (by omega) (by omega) ha
  have hel : elc kd < 12 := by unfold elc; split; omega; split <;> omega
  obtain ⟨c1, c2, c3, c4⟩ := clsF (elc kd) hel
  obtain ⟨cellV, g1, g2, g3, -⟩ := F.obj q3 (cj := elc kd) hv hel c1
  have hcls := (F.wf.1.1 (elc kd) _ c1).2
  have hra : va_RA (xs X) (oT o kd) (.object (cR (elc kd))) := by
    rcases hkd with rfl | rfl | rfl
    · exact F.wf.2.2.2.2.1.2
    · exact F.we.1.2
    · exact F.we.2.1.2
  obtain ⟨kA, comp, k1, k2, k3, -⟩ := hra
  have hcomp : comp = (oD o).1 (elc kd) := Option.some.inj (k3.symm.trans hcls.1)
  subst hcomp
  obtain ⟨kC, hkC, -⟩ := hcls.2
  refine W.aast F.1 F.2.1 hc (fun q h => by cases h) (fun h => by cases h) k1 k2 rfl hkC ⟨h0, by rw [arrV_size]; exact hlt⟩ g1 (fun q h => by rw [g3] at h; cases h) (by rw [g2]; exact hkC) (by rw [g2]; exact va_assign hcls) rfl rfl hd fun H1 e z oq => ?_
  refine kk lsA H1 _ q1 q2 (q3.setR (by omega) (by omega) ha ?_ z oq) (q4.put z oq (oLB _ _)) q5 q6
  rw [e, arrV_store]
  exact congrArg (fun f => some (arrV (oT o kd) (hl h a) f)) (up_V (x := some v))
theorem sd_aastoreN (F : FR o X E d n0 s0 nE sE) {a kd : Nat} {i : Int32} (hd : decode E.2.1 pc = .ok (.aastore, 1)) (hkd : kd = 13 ∨ kd = 15 ∨ kd = 16) (ha : hk h a = kd) (hin : vp_in i (hl h a)) (kk : WG o X L n0 s0 Q (wR h a (va_up (hR h a) i.toNatClampNeg none)) (pc + 1) ls st) : WG o X L n0 s0 Q h pc ls (.null :: .int i :: .ref a :: st) := by
  intro lsA H locs q1 q2 q3 q4 q5 q6
  have hlt := vp_not hin
  have hc := (q3.2.2.1 a (q3.lt (by omega))).2.2.2.2 kd (by omega) (by omega) ha
  have hw : ArrOfT (xs X) (oT o kd) (.object (cR (elc kd))) := by
    rcases hkd with rfl | rfl | rfl
    · exact F.wf.2.2.2.2.1.1
    · exact F.we.1.1
    · exact F.we.2.1.1
  refine va_WaastN (C := cR (elc kd)) F.1 F.2.1 hc (hw _ _) (fun h => by cases h) (by rw [arrV_size]; exact hin) rfl rfl hd fun H1 e z oq => ?_
  refine kk lsA H1 _ q1 q2 (q3.setR (by omega) (by omega) ha ?_ z oq) (q4.put z oq (oLB _ _)) q5 q6
  rw [e, arrV_store]
  exact congrArg (fun f => some (arrV (oT o kd) (hl h a) f)) (up_V (x := none))
theorem sd_arraylength (F : FR o X E d n0 s0 nE sE) {a : Nat} (hd : decode E.2.1 pc = .ok (.arraylength, 1)) (ha : 10 ≤ hk h a ∧ hk h a ≤ 16) (kk : WG o X L n0 s0 Q h (pc + 1) ls (.int (nI (hl h a)) :: st)) : WG o X L n0 s0 Q h pc ls (.ref a :: st) := by
  intro lsA H locs q1 q2 q3 q4 q5 q6
  have kk := kk lsA H locs q1 q2 q3 q4 q5 q6
  obtain ⟨-, a1, a2, a3, a4⟩ := q3.2.2.1 a (q3.lt (by omega))
  obtain ⟨w1, w2, w3⟩ := (show _ ∧ _ ∧ _ from ⟨F.wf.2.1.1, F.wf.2.2.1.1, F.wf.2.2.2.1.1⟩)
  rcases (show hk h a = 10 ∨ hk h a = 11 ∨ hk h a = 12 ∨ 13 ≤ hk h a by omega) with e | e | e | e
  · exact W.alen F.1 F.2.1 (a1 e) (w1 _ _) (by rw [arrV_size]; rfl) rfl rfl hd kk
  · exact W.alen F.1 F.2.1 (a2 e) (w2 _ _) (by rw [arrV_size]; rfl) rfl rfl hd kk
  · exact W.alen F.1 F.2.1 (a3 e) (w3 _ _) (by rw [arrV_size]; rfl) rfl rfl hd kk
  · obtain ⟨ty, w4, -, -⟩ := F.arq e ha.2
    exact W.alen F.1 F.2.1 (a4 _ e ha.2 rfl) (w4 _ _) (by rw [arrV_size]; rfl) rfl rfl hd kk
end P2
