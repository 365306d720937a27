/-! SOUNDNESS, part 3: new things, constants, statics, the script, literals, library members -/
section P3
variable {o : OM} {X : CX} {E : MI} {d n0 s0 nE sE L : Nat} {Q : State → Prop} {h : AH} {pc : Nat} {ls : aLS} {st : List Value}
theorem hk_alO {h : AH} {kd n : Nat} {fs : Nat → Value} (i : Nat) : hk (alO h kd n fs) i = if i = hN h then kd else hk h i := by
  show (if i = h.1 then (kd, n) else h.2.2.1 i).1 = _
  by_cases e : i = h.1
  · rw [if_pos e]; exact (if_pos e).symm
  · rw [if_neg e]; exact (if_neg e).symm
theorem hl_alO {h : AH} {kd n : Nat} {fs : Nat → Value} (i : Nat) : hl (alO h kd n fs) i = if i = hN h then n else hl h i := by
  show (if i = h.1 then (kd, n) else h.2.2.1 i).2 = _
  by_cases e : i = h.1
  · rw [if_pos e]; exact (if_pos e).symm
  · rw [if_neg e]; exact (if_neg e).symm
theorem hk_alA {h : AH} {kd n : Nat} (i : Nat) : hk (alA h kd n) i = if i = hN h then kd else hk h i := by
  show (if i = h.1 then (kd, n) else h.2.2.1 i).1 = _
  by_cases e : i = h.1
  · rw [if_pos e]; exact (if_pos e).symm
  · rw [if_neg e]; exact (if_neg e).symm
theorem hl_alA {h : AH} {kd n : Nat} (i : Nat) : hl (alA h kd n) i = if i = hN h then n else hl h i := by
  show (if i = h.1 then (kd, n) else h.2.2.1 i).2 = _
  by_cases e : i = h.1
  · rw [if_pos e]; exact (if_pos e).symm
  · rw [if_neg e]; exact (if_neg e).symm
theorem sd_new (F : FR o X E d n0 s0 nE sE) {i wi cj : Nat} (hd : decode E.2.1 pc = .ok (.new i, 3)) (hL : look (E.2.2.2.2.1, i) clsT = some (wi, cj)) (r1 : oO o + hN h + 1 ≤ nE) (r2 : hS h + cNf cj ≤ sE)
    (kk : WG o X L n0 s0 Q (alO h (kc cj) (cNf cj) (fun k => defaultValue (cY cj k))) (pc + 3) ls (.ref (hN h) :: st)) : WG o X L n0 s0 Q h pc ls st := by
  intro lsA H locs q1 q2 q3 q4 q5 q6
  have ok := all_of clsT_ok (look_mem hL)
  simp only [Bool.and_eq_true, decide_eq_true_eq] at ok
  obtain ⟨o1, o2⟩ := ok
  obtain ⟨c1, c2, c3, c4⟩ := clsF cj o2
  have hKn := F.wf.1.1 cj _ c1
  refine W.newcK F.1 F.2.1 F.own (F.w o1 rfl) (F.hts _ (clsN cj o2)) (F.hts _ (clsI cj (by omega))) rfl hd (by have := F.ce; omega) (by have := F.sl; omega) hKn.2.1 rfl fun H1 kC hkC e1 z1 o1 => ?_
  have kk := kk lsA H1 locs q1 q2 ?_ ⟨Nat.le_trans q4.1 (by omega), fun q h1 h2 => (o1 q (Nat.lt_of_lt_of_le h1 q4.1)).trans (q4.2.1 q h1 h2), q4.2.2⟩ (by show n0 ≤ oO o + (hN h + 1); omega) (by show s0 ≤ hS h + _; omega)
  · rw [show oO o + hN (alO h (kc cj) (cNf cj) (fun k => defaultValue (cY cj k))) - n0 = oO o + hN h - n0 + 1 from (by show oO o + (hN h + 1) - n0 = _; omega), show hS (alO h (kc cj) (cNf cj) (fun k => defaultValue (cY cj k))) - s0 = hS h - s0 + cNf cj from (by show hS h + _ - s0 = _; omega)] at kk
    rw [q3.1]
    exact kk
  · have hb := u_born (cY cj) F.hts c2 hKn hkC (by rw [q3.1] at e1; exact e1) c3
    refine q3.push (n := 1) rfl (fun i hi => by rw [hk_alO, if_neg (by omega)]) (fun i hi => by rw [hl_alO, if_neg (by omega)]) rfl z1 o1 (fun i hi j => by
      show (if i = h.1 then _ else h.2.2.2.1 i) j = _
      rw [if_neg (show ¬ i = h.1 from Nat.ne_of_lt hi)]; rfl) (fun _ _ => rfl) (fun _ _ => rfl) (fun _ _ => rfl) (fun i hi hi2 => ?_)
    have e : i = hN h := by omega
    subst e
    have ek : hk (alO h (kc cj) (cNf cj) (fun k => defaultValue (cY cj k))) (hN h) = kc cj := by rw [hk_alO, if_pos rfl]
    have kr := kc_rng cj
    refine ⟨fun ci h1 h2 => ?_, fun q => by omega, fun q => by omega, fun q => by omega, fun k2 g1 g2 q => by omega⟩
    have e : ci = cj := kc_inj (h1.symm.trans ek)
    subst e
    refine ⟨_, c1, hb.to (fun k hk1 => ?_)⟩
    show _ = trv o ((if h.1 = h.1 then (fun k => defaultValue (cY ci k)) else h.2.2.2.1 h.1) k)
    rw [if_pos rfl]
    have hD := clsD ci o2 k hk1
    cases hv : defaultValue (cY ci k) <;> first | rfl | (rw [hv] at hD; cases hD)
theorem sd_newarray (F : FR o X E d n0 s0 nE sE) {at1 : ArrayType} {n : Int32} {kd : Nat} (hd : decode E.2.1 pc = .ok (.newarray at1, 2)) (hk9 : (at1 = .int ∧ kd = 10) ∨ (at1 = .byte ∧ kd = 11) ∨ (at1 = .long ∧ kd = 12)) (hn : ¬ n < 0) (hn2 : n.toNatClampNeg ≤ 60000000) (r1 : oO o + hN h + 1 ≤ nE) (r2 : hS h + n.toNatClampNeg ≤ sE)
    (kk : WG o X L n0 s0 Q (alA h kd n.toNatClampNeg) (pc + 2) ls (.ref (hN h) :: st)) : WG o X L n0 s0 Q h pc ls (.int n :: st) := by
  intro lsA H locs q1 q2 q3 q4 q5 q6
  have har : (Cond.arrayClass (newarray.typeOf at1)).before (xa X) (xs X) = true := by
    rcases hk9 with ⟨rfl, -⟩ | ⟨rfl, -⟩ | ⟨rfl, -⟩
    · exact F.hts _ (by decide +kernel)
    · exact F.hts _ (by decide +kernel)
    · exact F.hts _ (by decide +kernel)
  have hby : n.toNatClampNeg * componentBytes (newarray.typeOf at1) ≤ 536870912 := by
    rcases hk9 with ⟨rfl, -⟩ | ⟨rfl, -⟩ | ⟨rfl, -⟩
    · show n.toNatClampNeg * 4 ≤ _; omega
    · show n.toNatClampNeg * 1 ≤ _; omega
    · show n.toNatClampNeg * 8 ≤ _; omega
  refine va_newaK F.1 F.2.1 har rfl hd rfl hn rfl hby (by have := F.ce; omega) (by have := F.sl; omega) rfl fun H1 cA e1 z1 o1 hAr hNm => ?_
  have hcA : cA = oT o kd := by
    rcases hk9 with ⟨rfl, rfl⟩ | ⟨rfl, rfl⟩ | ⟨rfl, rfl⟩
    · exact Option.some.inj (hNm.symm.trans F.wf.2.1.2)
    · exact Option.some.inj (hNm.symm.trans F.wf.2.2.1.2)
    · exact Option.some.inj (hNm.symm.trans F.wf.2.2.2.1.2)
  subst hcA
  have kk := kk lsA H1 locs q1 q2 ?_ ⟨Nat.le_trans q4.1 (by omega), fun q h1 h2 => (o1 q (Nat.lt_of_lt_of_le h1 q4.1)).trans (q4.2.1 q h1 h2), q4.2.2⟩ (by show n0 ≤ oO o + (hN h + 1); omega) (by show s0 ≤ hS h + _; omega)
  · rw [show oO o + hN (alA h kd n.toNatClampNeg) - n0 = oO o + hN h - n0 + 1 from (by show oO o + (hN h + 1) - n0 = _; omega), show hS (alA h kd n.toNatClampNeg) - s0 = hS h - s0 + n.toNatClampNeg from (by show hS h + _ - s0 = _; omega)] at kk
    rw [q3.1]
    exact kk
  · rw [q3.1] at e1
    refine q3.push (n := 1) rfl (fun i hi => by rw [hk_alA, if_neg (by omega)]) (fun i hi => by rw [hl_alA, if_neg (by omega)]) rfl z1 o1 (fun _ _ _ => rfl) (fun i hi => if_neg (show ¬ i = h.1 from Nat.ne_of_lt hi)) (fun i hi => if_neg (show ¬ i = h.1 from Nat.ne_of_lt hi)) (fun i hi => if_neg (show ¬ i = h.1 from Nat.ne_of_lt hi)) (fun i hi hi2 => ?_)
    have e : i = hN h := by omega
    subst e
    have ek : hk (alA h kd n.toNatClampNeg) (hN h) = kd := by rw [hk_alA, if_pos rfl]
    have el : hl (alA h kd n.toNatClampNeg) (hN h) = n.toNatClampNeg := by rw [hl_alA, if_pos rfl]
    have eA : hA (alA h kd n.toNatClampNeg) (hN h) = fun _ => 0 := if_pos rfl
    have eJ : hJ (alA h kd n.toNatClampNeg) (hN h) = fun _ => 0 := if_pos rfl
    rw [aAt, ek, el, eA, eJ]
    rcases hk9 with ⟨rfl, rfl⟩ | ⟨rfl, rfl⟩ | ⟨rfl, rfl⟩
    · exact ⟨fun ci h1 h2 => by have := kc_rng ci; omega, fun _ => e1, fun q => by omega, fun q => by omega, fun k2 g1 g2 q => by omega⟩
    · exact ⟨fun ci h1 h2 => by have := kc_rng ci; omega, fun q => by omega, fun _ => e1, fun q => by omega, fun k2 g1 g2 q => by omega⟩
    · exact ⟨fun ci h1 h2 => by have := kc_rng ci; omega, fun q => by omega, fun q => by omega, fun _ => e1, fun k2 g1 g2 q => by omega⟩
/-- a new row of references, its class known -/
theorem new_ref (F : FR o X E d n0 s0 nE sE) {n : Nat} {kd pc' : Nat} {lsA : Array Slot} {H H1 : Heap} {locs : List Loc} (g1 : 13 ≤ kd) (g2 : kd ≤ 16) (q1 : LV o lsA ls) (q2 : ls.length = L) (q3 : aRel o h H) (q4 : va_S (fun q => oL o ≤ q) (xs X).heap H locs) (q5 : n0 ≤ oO o + hN h) (q6 : s0 ≤ hS h)
    (hH1 : H.push ({ cls := oT o kd, slots := Array.replicate n .null, vm := .none } : Cell) = H1) (kk : WG o X L n0 s0 Q (alA h kd n) pc' ls (.ref (hN h) :: st)) :
    W (xp X) (xl X) (xe X) (xR X) (xs X) (xm X) (xa X) (xb X) (xM X) (xc X) H1 locs (oO o + hN h - n0 + 1) (hS h - s0 + n) Q (F0 (xm X) pc' lsA (.ref H.size :: st.map (trv o))) := by
  have z1 : H1.size = H.size + 1 := by rw [← hH1, Array.size_push]
  have e1 : H1[H.size]? = some (arrV (oT o kd) n (fun _ => .null)) := by rw [← hH1, Array.getElem?_push_size, ← arrV_new]
  have o1 : ∀ q : Nat, q < H.size → H1[q]? = H[q]? := fun q hq => by rw [← hH1, Array.getElem?_push, if_neg (Nat.ne_of_lt hq)]
  have kk := kk lsA H1 locs q1 q2 ?_ ⟨Nat.le_trans q4.1 (by omega), fun q h1 h2 => (o1 q (Nat.lt_of_lt_of_le h1 q4.1)).trans (q4.2.1 q h1 h2), q4.2.2⟩ (by show n0 ≤ oO o + (hN h + 1); omega) (by show s0 ≤ hS h + _; omega)
  · rw [show oO o + hN (alA h kd n) - n0 = oO o + hN h - n0 + 1 from (by show oO o + (hN h + 1) - n0 = _; omega), show hS (alA h kd n) - s0 = hS h - s0 + n from (by show hS h + _ - s0 = _; omega)] at kk
    rw [q3.1]
    exact kk
  · rw [q3.1] at e1
    refine q3.push (n := 1) rfl (fun i hi => by rw [hk_alA, if_neg (by omega)]) (fun i hi => by rw [hl_alA, if_neg (by omega)]) rfl z1 o1 (fun _ _ _ => rfl) (fun i hi => if_neg (show ¬ i = h.1 from Nat.ne_of_lt hi)) (fun i hi => if_neg (show ¬ i = h.1 from Nat.ne_of_lt hi)) (fun i hi => if_neg (show ¬ i = h.1 from Nat.ne_of_lt hi)) (fun i hi hi2 => ?_)
    have e : i = hN h := by omega
    subst e
    have ek : hk (alA h kd n) (hN h) = kd := by rw [hk_alA, if_pos rfl]
    have el : hl (alA h kd n) (hN h) = n := by rw [hl_alA, if_pos rfl]
    have eR : hR (alA h kd n) (hN h) = fun _ => none := if_pos rfl
    rw [aAt, ek, el, eR]
    refine ⟨fun ci h1 h2 => by have := kc_rng ci; omega, fun q => by omega, fun q => by omega, fun q => by omega, fun k2 g3 g4 q => ?_⟩
    subst q
    exact e1
/-- the kind of a row of objects of class cj -/
def rowK (cj : Nat) : Nat := if cj = 2 then 13 else if cj = 9 then 15 else if cj = 6 then 16 else 0
/-- new C[n] -/
theorem sd_anewarray (F : FR o X E d n0 s0 nE sE) {i wi cj : Nat} {n : Int32} (hd : decode E.2.1 pc = .ok (.anewarray i, 3)) (hL : look (E.2.2.2.2.1, i) clsT = some (wi, cj)) (hcj : cj = 2 ∨ cj = 9 ∨ cj = 6) (hn : ¬ n < 0) (hn2 : n.toNatClampNeg ≤ 60000000) (r1 : oO o + hN h + 1 ≤ nE) (r2 : hS h + n.toNatClampNeg ≤ sE)
    (kk : WG o X L n0 s0 Q (alA h (rowK cj) n.toNatClampNeg) (pc + 3) ls (.ref (hN h) :: st)) : WG o X L n0 s0 Q h pc ls (.int n :: st) := by
  intro lsA H locs q1 q2 q3 q4 q5 q6
  have ok := all_of clsT_ok (look_mem hL)
  simp only [Bool.and_eq_true, decide_eq_true_eq] at ok
  obtain ⟨w1, w2⟩ := ok
  have hao : va_AO (cR cj) (xs X) := by
    rcases hcj with rfl | rfl | rfl
    · exact F.wf.2.2.2.2.2.2.2.2.2.2.2.2.2.2.2.2.1
    · exact F.we.2.2.1
    · exact F.we.2.2.2.1
  have hra : va_RA (xs X) (oT o (rowK cj)) (.object (cR cj)) := by
    rcases hcj with rfl | rfl | rfl
    · exact F.wf.2.2.2.2.1.2
    · exact F.we.1.2
    · exact F.we.2.1.2
  have hr : 13 ≤ rowK cj ∧ rowK cj ≤ 16 := by
    rcases hcj with rfl | rfl | rfl <;> decide
  refine W.anew F.1 F.2.1 F.own (F.w w1 rfl) (va_AO.use hao) rfl hd rfl hn (by omega) (by have := F.ce; omega) (by have := F.sl; omega) fun cA kA comp f1 f2 f3 f4 => ?_
  have hcA : cA = oT o (rowK cj) := by
    obtain ⟨kA, comp, k1, k2, k3, k4⟩ := hra
    exact Option.some.inj (f1.symm.trans k4)
  subst hcA
  exact new_ref F hr.1 hr.2 q1 q2 q3 q4 q5 q6 rfl kk
theorem sd_ldc (F : FR o X E d n0 s0 nE sE) {i wi : Nat} {v : Int32} (hd : decode E.2.1 pc = .ok (.ldc i, 2)) (hL : look (E.2.2.2.2.1, i) cstT = some (wi, v)) (kk : WG o X L n0 s0 Q h (pc + 2) ls (.int v :: st)) : WG o X L n0 s0 Q h pc ls st := by
  intro lsA H locs q1 q2 q3 q4 q5 q6
  have ok := all_of cstT_ok (look_mem hL)
  simp only [decide_eq_true_eq] at ok
  exact lv_ldc F.1 F.2.1 F.own (F.w ok rfl) hd (kk lsA H locs q1 q2 q3 q4 q5 q6)
theorem sd_ldc2 (F : FR o X E d n0 s0 nE sE) {i wi : Nat} {v : Int64} (hd : decode E.2.1 pc = .ok (.ldc2_w i, 3)) (hL : look (E.2.2.2.2.1, i) cstLT = some (wi, v)) (kk : WG o X L n0 s0 Q h (pc + 3) ls (.long v :: st)) : WG o X L n0 s0 Q h pc ls st := by
  intro lsA H locs q1 q2 q3 q4 q5 q6
  have ok := all_of cstLT_ok (look_mem hL)
  simp only [decide_eq_true_eq] at ok
  exact lv_ldc2 F.1 F.2.1 F.own (F.w ok rfl) hd (kk lsA H locs q1 q2 q3 q4 q5 q6)
/-- literal k, its bytes -/
def litV (k : Nat) : Value := .float (UInt32.ofNat (2 * k + 2))
def litB (k : Nat) : Value := .float (UInt32.ofNat (2 * k + 3))
def fmtV : Value := .float 1
def scrV : Value := .float 0
theorem litV_tr {k : Nat} (hk : k < 49) : trv o (litV k) = .ref (oK o k) := by
  show tflo o (UInt32.ofNat (2 * k + 2)).toNat = _
  have e : (UInt32.ofNat (2 * k + 2)).toNat = 2 * k + 2 := by
    rw [UInt32.toNat_ofNat']
    omega
  rw [e]
  unfold tflo
  rw [if_neg (by omega), if_neg (by omega), if_neg (by omega), if_pos (by omega), show (2 * k + 2) / 2 - 1 = k by omega]
theorem litB_tr {k : Nat} (hk : k < 49) : trv o (litB k) = .ref (oV o k) := by
  show tflo o (UInt32.ofNat (2 * k + 3)).toNat = _
  have e : (UInt32.ofNat (2 * k + 3)).toNat = 2 * k + 3 := by
    rw [UInt32.toNat_ofNat']
    omega
  rw [e]
  unfold tflo
  rw [if_neg (by omega), if_neg (by omega), if_neg (by omega), if_neg (by omega), show (2 * k + 3) / 2 - 1 = k by omega]
theorem strT_lt : strT.all (fun q => decide (q.2.2 < 49)) = true := by decide +kernel
theorem sd_ldcS (F : FR o X E d n0 s0 nE sE) {i k : Nat} {tx : String} (hd : decode E.2.1 pc = .ok (.ldc i, 2)) (hL : look (E.2.2.2.2.1, i) strT = some (tx, k)) (kk : WG o X L n0 s0 Q h (pc + 2) ls (litV k :: st)) : WG o X L n0 s0 Q h pc ls st := by
  intro lsA H locs q1 q2 q3 q4 q5 q6
  have kk := kk lsA H locs q1 q2 q3 q4 q5 q6
  have hm := look_mem hL
  have hk : k < 49 := by
    have h9 := all_of strT_lt hm
    simp only [decide_eq_true_eq] at h9
    exact h9
  have hR : vk_R (cR E.2.2.2.2.1) i tx (oK o k) (xs X) := F.wf.2.2.2.2.2.2.2.2.1 ((E.2.2.2.2.1, i), (tx, k)) hm
  rw [List.map_cons, litV_tr hk] at kk
  exact va_ldcS F.1 F.2.1 F.own hR hd kk
/-- the static k -/
def stV (k : Nat) : Value := if k = 0 then .int 1 else if k = 1 then fmtV else if k = 2 then .float 100 else if k = 3 then .float 101 else .float 102
theorem sd_getstatic (F : FR o X E d n0 s0 nE sE) {i wi k : Nat} {nest : Bool} {host : String} (hd : decode E.2.1 pc = .ok (.getstatic i, 3)) (hL : look (E.2.2.2.2.1, i) stT = some (wi, k, nest, host)) (kk : WG o X L n0 s0 Q h (pc + 3) ls (stV k :: st)) : WG o X L n0 s0 Q h pc ls st := by
  intro lsA H locs q1 q2 q3 q4 q5 q6
  have kk := kk lsA H locs q1 q2 q3 q4 q5 q6
  have ok := all_of stT_ok (look_mem hL)
  simp only [Bool.and_eq_true, decide_eq_true_eq] at ok
  obtain ⟨ok, k5⟩ := ok
  have hZ : va_Z (stN k).1 (stN k).2.1 (stN k).2.2 (trv o (stV k)) (fun q => oL o ≤ q) (xs X) (xs X).heap := by
    rcases (show k = 0 ∨ k = 1 ∨ k = 2 ∨ k = 3 ∨ k = 4 by omega) with rfl | rfl | rfl | rfl | rfl
    · exact F.wf.2.2.2.2.2.2.2.2.2.2.1
    · exact F.wf.2.2.2.2.2.2.2.2.2.2.2.1
    · exact F.we.2.2.2.2.1
    · exact F.we.2.2.2.2.2.2.1
    · exact F.we.2.2.2.2.2.2.2.2.1
  rw [List.map_cons] at kk
  cases nest with
  | false => exact va_gets F.1 F.2.1 hZ q4 F.own (F.w ok rfl) (fun _ z => z) hd kk
  | true => exact va_getsN F.1 F.2.1 hZ q4 F.own (F.ng ok rfl rfl) (fun _ z => z) hd kk
theorem sd_vars (F : FR o X E d n0 s0 nE sE) {i : Int32} (hd : decode E.2.1 pc = .ok (.aaload, 1)) (hin : vp_in i 3) (kk : WG o X L n0 s0 Q h (pc + 1) ls (litV (vrN i.toNatClampNeg) :: st)) : WG o X L n0 s0 Q h pc ls (.int i :: .float 100 :: st) := by
  intro lsA H locs q1 q2 q3 q4 q5 q6
  have kk := kk lsA H locs q1 q2 q3 q4 q5 q6
  have hv : vrN i.toNatClampNeg < 49 := by unfold vrN; split; omega; split <;> omega
  rw [List.map_cons, litV_tr hv] at kk
  obtain ⟨cell, h1, h2, h3, h4, h5, h6, h7⟩ := F.we.2.2.2.2.2.1
  have hlt := vp_not hin
  exact W.aald (v := .ref (oK o (vrN i.toNatClampNeg))) F.1 F.2.1 (a := oW o 0) (by rw [q4.2.1 _ (Array.getElem?_eq_some_iff.mp h1).1 h7]; exact h1) h2 rfl h3 (fun z => by rcases z with z | z; exact hin (Or.inl z); omega) (h6 _ hlt) rfl rfl hd kk
/-- the digits' rows -/
def dgt (k j : Nat) : Int32 := if k = 101 then nI (48 + j % 10) else nI (48 + j / 10)
theorem sd_digit (F : FR o X E d n0 s0 nE sE) {i : Int32} {u : UInt32} (hu : u.toNat = 101 ∨ u.toNat = 102) (hd : decode E.2.1 pc = .ok (.baload, 1)) (hin : vp_in i 100) (kk : WG o X L n0 s0 Q h (pc + 1) ls (.int (dgt u.toNat i.toNatClampNeg) :: st)) : WG o X L n0 s0 Q h pc ls (.int i :: .float u :: st) := by
  intro lsA H locs q1 q2 q3 q4 q5 q6
  have kk := kk lsA H locs q1 q2 q3 q4 q5 q6
  rw [List.map_cons, List.map_cons]
  rcases hu with hu | hu
  · have e : trv o (.float u) = .ref (oW o 1) := by show tflo o u.toNat = _; rw [hu]; rfl
    rw [e]
    rw [hu] at kk
    exact va_tb F.1 F.2.1 F.we.2.2.2.2.2.2.2.1 q4 hin rfl hd kk
  · have e : trv o (.float u) = .ref (oW o 2) := by show tflo o u.toNat = _; rw [hu]; rfl
    rw [e]
    rw [hu] at kk
    exact va_tb F.1 F.2.1 F.we.2.2.2.2.2.2.2.2.2 q4 hin rfl hd kk
theorem sd_slen (F : FR o X E d n0 s0 nE sE) (hd : decode E.2.1 pc = .ok (.arraylength, 1)) (kk : WG o X L n0 s0 Q h (pc + 1) ls (.int (nI (hX h).1) :: st)) : WG o X L n0 s0 Q h pc ls (scrV :: st) := by
  intro lsA H locs q1 q2 q3 q4 q5 q6
  have kk := kk lsA H locs q1 q2 q3 q4 q5 q6
  have hb : oS o < oL o := F.wf.2.2.2.2.2.2.2.1
  rw [q3.2.2.2] at kk
  exact va_slen F.1 F.2.1 F.wf.2.2.2.2.2.2.1 (by have := F.lb; omega) (by omega) q4 hd kk
theorem sd_sld (F : FR o X E d n0 s0 nE sE) {i : Int32} (hd : decode E.2.1 pc = .ok (.iaload, 1)) (hin : vp_in i (hX h).1) (kk : WG o X L n0 s0 Q h (pc + 1) ls (.int ((hX h).2 i.toNatClampNeg) :: st)) : WG o X L n0 s0 Q h pc ls (.int i :: scrV :: st) := by
  intro lsA H locs q1 q2 q3 q4 q5 q6
  have kk := kk lsA H locs q1 q2 q3 q4 q5 q6
  have hb : oS o < oL o := F.wf.2.2.2.2.2.2.2.1
  rw [q3.2.2.2] at kk hin
  exact va_sld F.1 F.2.1 F.wf.2.2.2.2.2.2.1 (by have := F.lb; omega) (by omega) q4 hin hd kk
theorem FR.lit (F : FR o X E d n0 s0 nE sE) : am_S 17 lenJ bytJ (oK o) (oV o) (fun q => oL o ≤ q) (xs X) (xs X).heap := F.wf.2.2.2.2.2.2.2.2.2.1
theorem sd_litget (F : FR o X E d n0 s0 nE sE) {i wi k fk : Nat} (hk6 : k < 17) (hd : decode E.2.1 pc = .ok (.getfield i, 3)) (hL : look (E.2.2.2.2.1, i) litF = some (wi, fk)) (kk : WG o X L n0 s0 Q h (pc + 3) ls ((if fk = 0 then litB k else .int 0) :: st)) : WG o X L n0 s0 Q h pc ls (litV k :: st) := by
  intro lsA H locs q1 q2 q3 q4 q5 q6
  have kk := kk lsA H locs q1 q2 q3 q4 q5 q6
  have ok := all_of litF_ok (look_mem hL)
  simp only [decide_eq_true_eq] at ok
  rw [List.map_cons, litV_tr (by omega)]
  by_cases e : fk = 0
  · rw [if_pos e, if_pos e] at ok
    rw [if_pos e, List.map_cons, litB_tr (by omega)] at kk
    exact vk_getf F.1 F.2.1 ((F.lit k hk6).1 0 (by decide)).2.2.1 q4 F.own (F.w ok rfl) (fun _ z => z) hd kk
  · rw [if_neg e, if_neg e] at ok
    rw [if_neg e] at kk
    exact vk_getf F.1 F.2.1 ((F.lit k hk6).1 0 (by decide)).2.1 q4 F.own (F.w ok rfl) (fun _ z => z) hd kk
theorem sd_litlen (F : FR o X E d n0 s0 nE sE) {k : Nat} (hk6 : k < 17) (hd : decode E.2.1 pc = .ok (.arraylength, 1)) (kk : WG o X L n0 s0 Q h (pc + 1) ls (.int (nI (lenJ.getD k 0)) :: st)) : WG o X L n0 s0 Q h pc ls (litB k :: st) := by
  intro lsA H locs q1 q2 q3 q4 q5 q6
  have kk := kk lsA H locs q1 q2 q3 q4 q5 q6
  rw [List.map_cons, litB_tr (by omega)]
  obtain ⟨cell, h1, h2, h3, h4, h5, h6, h7⟩ := ((F.lit k hk6).1 0 (by decide)).2.2.2
  exact W.alen F.1 F.2.1 (by rw [q4.2.1 _ (Array.getElem?_eq_some_iff.mp h1).1 h7]; exact h1) h2 h5 rfl rfl hd kk
theorem sd_litald (F : FR o X E d n0 s0 nE sE) {k : Nat} {i : Int32} (hk6 : k < 17) (hd : decode E.2.1 pc = .ok (.baload, 1)) (hin : vp_in i (lenJ.getD k 0)) (kk : WG o X L n0 s0 Q h (pc + 1) ls (.int ((bytJ.getD k []).getD i.toNatClampNeg 0) :: st)) : WG o X L n0 s0 Q h pc ls (.int i :: litB k :: st) := by
  intro lsA H locs q1 q2 q3 q4 q5 q6
  have kk := kk lsA H locs q1 q2 q3 q4 q5 q6
  rw [List.map_cons, List.map_cons, litB_tr (by omega)]
  obtain ⟨cell, h1, h2, h3, h4, h5, h6, h7⟩ := ((F.lit k hk6).1 0 (by decide)).2.2.2
  have hlt := vp_not hin
  have h4 : lenJ.getD k 0 ≤ cell.slots.size := h4
  exact W.bald (v := .int ((bytJ.getD k []).getD i.toNatClampNeg 0)) F.1 F.2.1 (by rw [q4.2.1 _ (Array.getElem?_eq_some_iff.mp h1).1 h7]; exact h1) h2 h3 (fun z => by rcases z with z | z; exact hin (Or.inl z); omega) (h6 _ hlt) rfl rfl hd kk
theorem sd_i2c (F : FR o X E d n0 s0 nE sE) {x : Int32} (hd : decode E.2.1 pc = .ok (.i2c, 1)) (k : WG o X L n0 s0 Q h (pc + 1) ls (.int (x.toUInt32 % 65536).toInt32 :: st)) : WG o X L n0 s0 Q h pc ls (.int x :: st) :=
  fun lsA H locs a b c e f g => lv_i2c F.1 F.2.1 hd rfl (k lsA H locs a b c e f g)
theorem LV.sz {lsA : Array Slot} (h : LV o lsA ls) : lsA.size = ls.length := h.1
theorem mthT_w {c i kd wi t : Nat} {host : String} (hL : look (c, i) mthT = some (kd, wi, t, host)) : lw_tbl[wi]? = mthW c i kd t host := by
  have ok := all_of mthT_ok (look_mem hL)
  simp only [Bool.and_eq_true, decide_eq_true_eq] at ok
  exact ok.1
theorem sd_max (F : FR o X E d n0 s0 nE sE) {i wi t : Nat} {host : String} {x y : Int32} (hLn : L = E.2.2.1) (hd : decode E.2.1 pc = .ok (.invokestatic i, 3)) (hL : look (E.2.2.2.2.1, i) mthT = some (7, wi, t, host)) (hd1 : 1 ≤ d) (hr : (st.map fun v => v.category).sum ≤ 8)
    (kk : WG o X L n0 s0 Q h (pc + 3) ls (.int (if x < y then y else x) :: st)) (r1 : oO o + hN h ≤ nE) (r2 : hS h ≤ sE) : WG o X L n0 s0 Q h pc ls (.int y :: .int x :: st) := by
  intro lsA H locs q1 q2 q3 q4 q5 q6
  have kk := kk lsA H locs q1 q2 q3 q4 q5 q6
  have hw : lw_tbl[wi]? = some (.methodLink (cR E.2.2.2.2.1) i Lib.Math.max.name) := mthT_w hL
  have hcs : ((st.map (trv o)).map fun v => v.category) = st.map fun v => v.category := by rw [List.map_map]; exact List.map_congr_left fun v _ => trv_cat o v
  exact va_mmax F.1 F.2.1 (by rw [F.ml, q1.sz, q2, hLn]) F.own (F.w hw rfl) (F.hts _ (by decide +kernel)) (F.hts _ (by decide +kernel)) (F.hts _ (by decide +kernel)) (by have := F.fr; omega) (by rw [hcs]; have := F.lo; omega) (by have := F.ce; omega) (by have := F.sl; omega) hd kk
theorem sd_min (F : FR o X E d n0 s0 nE sE) {i wi t : Nat} {host : String} {x y : Int32} (hLn : L = E.2.2.1) (hd : decode E.2.1 pc = .ok (.invokestatic i, 3)) (hL : look (E.2.2.2.2.1, i) mthT = some (8, wi, t, host)) (hd1 : 1 ≤ d) (hr : (st.map fun v => v.category).sum ≤ 8)
    (kk : WG o X L n0 s0 Q h (pc + 3) ls (.int (if y < x then y else x) :: st)) (r1 : oO o + hN h ≤ nE) (r2 : hS h ≤ sE) : WG o X L n0 s0 Q h pc ls (.int y :: .int x :: st) := by
  intro lsA H locs q1 q2 q3 q4 q5 q6
  have kk := kk lsA H locs q1 q2 q3 q4 q5 q6
  have hw : lw_tbl[wi]? = some (.methodLink (cR E.2.2.2.2.1) i Lib.Math.min.name) := mthT_w hL
  have hcs : ((st.map (trv o)).map fun v => v.category) = st.map fun v => v.category := by rw [List.map_map]; exact List.map_congr_left fun v _ => trv_cat o v
  exact va_mmin F.1 F.2.1 (by rw [F.ml, q1.sz, q2, hLn]) F.own (F.w hw rfl) (F.hts _ (by decide +kernel)) (F.hts _ (by decide +kernel)) (F.hts _ (by decide +kernel)) (by have := F.fr; omega) (by rw [hcs]; have := F.lo; omega) (by have := F.ce; omega) (by have := F.sl; omega) hd kk
theorem sd_maxL (F : FR o X E d n0 s0 nE sE) {i wi t : Nat} {host : String} {x y : Int64} (hLn : L = E.2.2.1) (hd : decode E.2.1 pc = .ok (.invokestatic i, 3)) (hL : look (E.2.2.2.2.1, i) mthT = some (13, wi, t, host)) (hd1 : 1 ≤ d) (hr : (st.map fun v => v.category).sum ≤ 8)
    (kk : WG o X L n0 s0 Q h (pc + 3) ls (.long (if y < x then x else y) :: st)) (r1 : oO o + hN h ≤ nE) (r2 : hS h ≤ sE) : WG o X L n0 s0 Q h pc ls (.long y :: .long x :: st) := by
  intro lsA H locs q1 q2 q3 q4 q5 q6
  have kk := kk lsA H locs q1 q2 q3 q4 q5 q6
  have hw : lw_tbl[wi]? = some (.methodLink (cR E.2.2.2.2.1) i Lib.MathLoose.max_long.x) := mthT_w hL
  have hcs : ((st.map (trv o)).map fun v => v.category) = st.map fun v => v.category := by rw [List.map_map]; exact List.map_congr_left fun v _ => trv_cat o v
  exact va_mmax_long F.1 F.2.1 (by rw [F.ml, q1.sz, q2, hLn]) F.own (F.w hw rfl) (F.hts _ (by decide +kernel)) (F.hts _ (by decide +kernel)) (F.hts _ (by decide +kernel)) (by have := F.fr; omega) (by rw [hcs]; have := F.lo; omega) (by have := F.ce; omega) (by have := F.sl; omega) hd kk
theorem sd_minL (F : FR o X E d n0 s0 nE sE) {i wi t : Nat} {host : String} {x y : Int64} (hLn : L = E.2.2.1) (hd : decode E.2.1 pc = .ok (.invokestatic i, 3)) (hL : look (E.2.2.2.2.1, i) mthT = some (14, wi, t, host)) (hd1 : 1 ≤ d) (hr : (st.map fun v => v.category).sum ≤ 8)
    (kk : WG o X L n0 s0 Q h (pc + 3) ls (.long (if y < x then y else x) :: st)) (r1 : oO o + hN h ≤ nE) (r2 : hS h ≤ sE) : WG o X L n0 s0 Q h pc ls (.long y :: .long x :: st) := by
  intro lsA H locs q1 q2 q3 q4 q5 q6
  have kk := kk lsA H locs q1 q2 q3 q4 q5 q6
  have hw : lw_tbl[wi]? = some (.methodLink (cR E.2.2.2.2.1) i Lib.MathLoose.min_long.x) := mthT_w hL
  have hcs : ((st.map (trv o)).map fun v => v.category) = st.map fun v => v.category := by rw [List.map_map]; exact List.map_congr_left fun v _ => trv_cat o v
  exact va_mmin_long F.1 F.2.1 (by rw [F.ml, q1.sz, q2, hLn]) F.own (F.w hw rfl) (F.hts _ (by decide +kernel)) (F.hts _ (by decide +kernel)) (F.hts _ (by decide +kernel)) (by have := F.fr; omega) (by rw [hcs]; have := F.lo; omega) (by have := F.ce; omega) (by have := F.sl; omega) hd kk
theorem sd_objinit (F : FR o X E d n0 s0 nE sE) {i wi t a : Nat} {host : String} (hLn : L = E.2.2.1) (hd : decode E.2.1 pc = .ok (.invokespecial i, 3)) (hL : look (E.2.2.2.2.1, i) mthT = some (6, wi, t, host)) (hd1 : 1 ≤ d) (hr : (st.map fun v => v.category).sum ≤ 8)
    (kk : WG o X L n0 s0 Q h (pc + 3) ls st) : WG o X L n0 s0 Q h pc ls (.ref a :: st) := by
  intro lsA H locs q1 q2 q3 q4 q5 q6
  have kk := kk lsA H locs q1 q2 q3 q4 q5 q6
  have hw : lw_tbl[wi]? = some (.methodLink (cR E.2.2.2.2.1) i objectInit) := mthT_w hL
  have hcs : ((st.map (trv o)).map fun v => v.category) = st.map fun v => v.category := by rw [List.map_map]; exact List.map_congr_left fun v _ => trv_cat o v
  exact W.objInit F.1 F.2.1 F.own (F.w hw rfl) (F.hts _ (by decide +kernel)) (F.hts _ (by decide +kernel)) rfl (by show lsA.size = _; rw [F.ml, q1.sz, q2, hLn]) rfl hd (by have := F.fr; omega) (by show 2 * 0 + ((st.map (trv o)).map fun v => v.category).sum + 12 ≤ _; rw [hcs]; have := F.lo; omega) kk
end P3
