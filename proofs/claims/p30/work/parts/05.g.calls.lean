/-! SOUNDNESS, part 6: ends, throws, calls, the whole run -/
def QR (o : OM) (oc : AO) (h' : AH) : Array Value → State → Outcome → State → Prop := fun _ st out t => (∃ v, oc = .inl v ∧ out = .returned (v.map (trv o))) ∧ aRel o h' t.heap ∧ va_F (fun q => oL o ≤ q) st t
def QX (o : OM) (oc : AO) (h' : AH) : String → State → State → Prop := fun E st t => (∃ e, oc = .inr e ∧ E = exN e) ∧ aRel o h' t.heap ∧ va_F (fun q => oL o ≤ q) st t
def QF (o : OM) (X : CX) (oc : AO) (h' : AH) (n0 s0 : Nat) : State → Prop := vx_MQ (xb X) (QR o oc h') (QX o oc h') (xa X) (xs X) (oO o + hN h' - n0) (hS h' - s0) (fun q => oL o ≤ q)
theorem ngK_tab {w : Cond} (h : ngK w = true) : w.onTables = true := by cases w <;> first | rfl | cases h
section P6
variable {o : OM} {X : CX} {E : MI} {d n0 s0 nE sE L : Nat} {Q : State → Prop} {h : AH} {pc : Nat} {ls : aLS} {st : List Value}
theorem FR.lk (F : FR o X E d n0 s0 nE sE) : (xM X).locks = false := F.2.2.2.2.2.2.2.1
theorem FR.tr (F : FR o X E d n0 s0 nE sE) : (xl X).stackTraces = false := F.2.2.2.2.2.2.2.2.1
theorem FR.tb (F : FR o X E d n0 s0 nE sE) : (xc X).exceptionTable.toList = tableOf E.2.2.2.2.2 := F.2.2.2.2.2.1
theorem FR.any (F : FR o X E d n0 s0 nE sE) {w : Cond} (hm : w ∈ lw_tbl) (hg : (goodWord w || ngK w) = true) : w.before (xa X) (xs X) = true := by
  rcases Bool.or_eq_true _ _ |>.mp hg with g | g
  · exact F.hts w (List.mem_filter.mpr ⟨hm, g⟩)
  · exact va_Nw.use (ngK_tab g) (F.wf.2.2.2.2.2.2.2.2.2.2.2.2.2.2.1 w (List.mem_filter.mpr ⟨hm, g⟩))
theorem sd_iret (F : FR o X E d n0 s0 nE sE) {v : Int32} {ty : FieldType} (hd : decode E.2.1 pc = .ok (.ireturn, 1)) (hr : E.2.2.2.1 = some ty) (hn : narrow ty (.int v) = .int v) : WG o X L n0 s0 (QF o X (.inl (some (.int v))) h n0 s0) h pc ls [.int v] := by
  intro lsA H locs q1 q2 q3 q4 q5 q6
  exact vx_ret (W.zret (hlocks := F.lk) F.1 F.2.1 (F.2.2.2.1.trans hr) hn (fun t ht _ => ⟨⟨some (.int v), rfl, rfl⟩, by rw [ht]; exact q3, q4.F ht⟩) q4.2.2 hd)
theorem sd_lret (F : FR o X E d n0 s0 nE sE) {v : Int64} (hd : decode E.2.1 pc = .ok (.lreturn, 1)) (hr : E.2.2.2.1 = some .long) : WG o X L n0 s0 (QF o X (.inl (some (.long v))) h n0 s0) h pc ls [.long v] := by
  intro lsA H locs q1 q2 q3 q4 q5 q6
  exact vx_ret (W.lret (hlocks := F.lk) F.1 F.2.1 (F.2.2.2.1.trans hr) (fun t ht _ => ⟨⟨some (.long v), rfl, rfl⟩, by rw [ht]; exact q3, q4.F ht⟩) q4.2.2 hd)
theorem sd_vret (F : FR o X E d n0 s0 nE sE) (hd : decode E.2.1 pc = .ok (.return_, 1)) (hr : E.2.2.2.1 = none) : WG o X L n0 s0 (QF o X (.inl none) h n0 s0) h pc ls [] := by
  intro lsA H locs q1 q2 q3 q4 q5 q6
  exact vx_ret (W.vret (hlocks := F.lk) F.1 F.2.1 (F.2.2.2.1.trans hr) (fun t ht _ => ⟨⟨none, rfl, rfl⟩, by rw [ht]; exact q3, q4.F ht⟩) q4.2.2 hd)
theorem sd_aret (F : FR o X E d n0 s0 nE sE) {v : Value} {ty : FieldType} (hd : decode E.2.1 pc = .ok (.areturn, 1)) (hr : E.2.2.2.1 = some ty) (hty : ty.isReference = true) (hv : isR v = true) : WG o X L n0 s0 (QF o X (.inl (some v)) h n0 s0) h pc ls [v] := by
  intro lsA H locs q1 q2 q3 q4 q5 q6
  have ht : (∃ n, ty = .object n) ∨ ∃ t, ty = .array t := by
    cases ty <;> first | exact Or.inl ⟨_, rfl⟩ | exact Or.inr ⟨_, rfl⟩ | cases hty
  have hv2 : trv o v = .null ∨ ∃ a, trv o v = .ref a := (isR_tr (o := o) hv).symm
  exact vx_ret (W.aret (hlocks := F.lk) F.1 F.2.1 (F.2.2.2.1.trans hr) ht hv2 (fun t ht _ => ⟨⟨some v, rfl, rfl⟩, by rw [ht]; exact q3, q4.F ht⟩) q4.2.2 hd)
theorem aRel.hole {H H1 : Heap} (R : aRel o h H) (z : H1.size = H.size + 1) (oq : ∀ q, q < H.size → H1[q]? = H[q]?) : aRel o (alH h) H1 := by
  refine R.push (n := 1) rfl (fun _ _ => rfl) (fun _ _ => rfl) rfl z oq (fun _ _ _ => rfl) (fun _ _ => rfl) (fun _ _ => rfl) (fun _ _ => rfl) (fun i hi hi2 => ?_)
  have e0 : hk (alH h) i = 0 := R.2.1 i hi
  rw [aAt, e0]
  exact ⟨fun ci h1 => by have := kc_rng ci; omega, fun q => by omega, fun q => by omega, fun q => by omega, fun k2 g1 g2 q => by omega⟩
theorem sd_throw (F : FR o X E d n0 s0 nE sE) (hLn : L = E.2.2.1) {i e : Nat} (hd : decode E.2.1 pc = .ok (.new i, 3)) (hs : athr E d pc i st = some (.inr (.inr (.inr e)))) (r1 : oO o + hN h + 1 ≤ nE) (r2 : hS h + 6 ≤ sE) : WG o X L n0 s0 (QF o X (.inr e) (alH h) n0 s0) h pc ls st := by
  unfold athr at hs
  split at hs
  · cases hs
  · rename_i wi e1 hl1
    split at hs
    · rename_i is ic d3 d4 d6 d9
      split at hs
      · rename_i tx wj e2 hl2 hl3
        split at hs
        · rename_i hc
          obtain ⟨rfl, c2, c3, c4⟩ := hc
          cases hs
          intro lsA H locs q1 q2 q3 q4 q5 q6
          have ok1 := all_of exT_ok (look_mem hl1)
          simp only [decide_eq_true_eq] at ok1
          have ok2 := all_of exT_lt (look_mem hl1)
          simp only [decide_eq_true_eq] at ok2
          have ok3 := all_of exI_ok (look_mem hl3)
          simp only [List.all_eq_true, Bool.and_eq_true, decide_eq_true_eq] at ok3
          obtain ⟨x1, x2, x3, x4⟩ := exN_ok e ok2
          have hR : vk_R (cR E.2.2.2.2.1) is tx.1 (oK o tx.2) (xs X) := F.wf.2.2.2.2.2.2.2.2.1 ((E.2.2.2.2.1, is), tx) (look_mem hl2)
          have hin : (Cond.initialized (exN e)).before (xa X) (xs X) = true := F.any x2 rfl
          refine am_throwS (names := exU) F.1 F.2.1 F.tr F.own x1 exU_ok (F.w ok1 rfl) hin hR (fun w hw => F.any (ok3 w hw).1 (ok3 w hw).2.1) (fun w hw => ?_) F.wf.2.2.2.2.2.2.2.2.2.2.2.2.1 F.wf.2.2.2.2.2.2.2.2.2.2.2.2.2.1 q4
            (by rw [F.ml, q1.sz, q2, hLn]) hd d3 d4 d6 d9 (fun x hx => by rw [F.tb, c4] at hx; cases hx) (by have := F.fr; show 2 + 3 < _; omega) (by rw [map_cat]; have := len_cat c3; have := F.lo; show _ + (13 * (2 + 1) + 43) ≤ _; omega) (by have := F.ce; omega) (by have := F.sl; omega) F.lk ?_ q4.2.2 (by show _ ≤ oO o + (h.1 + 1) - n0; have : n0 ≤ oO o + h.1 := q5; show oO o + h.1 - n0 + 1 ≤ _; omega) (by show _ ≤ h.2.1 + 6 - s0; have : s0 ≤ h.2.1 := q6; show h.2.1 - s0 + 6 ≤ _; omega)
          · rcases List.mem_cons.mp hw with rfl | hw
            · rfl
            · rcases List.mem_cons.mp hw with rfl | hw
              · exact x3
              · exact (ok3 w hw).2.2
          · intro t _ hz hq
            exact ⟨⟨e, rfl, rfl⟩, q3.hole hz hq, ⟨by rw [hz]; exact Nat.le_trans q4.1 (Nat.le_succ _), fun q g1 g2 => (hq q (Nat.lt_of_lt_of_le g1 q4.1)).trans (q4.2.1 q g1 g2)⟩⟩
        · cases hs
      · cases hs
    · cases hs
end P6
