/-! RANDOM LINE: what a line starts with -/
section STR
variable {sa a : Nat → Nat → Int32} {z t j : Nat} {f : Nat → Int32}
theorem itn_setZ : ∀ (m k : Nat) (a : Nat → Nat → Int32), (∀ z, k ≤ z → z < k + m → itn (setZ sa) k m a 1 z = sa 1 z ∧ itn (setZ sa) k m a 2 z = sa 1 z) ∧ (∀ z, z < k → itn (setZ sa) k m a 1 z = a 1 z ∧ itn (setZ sa) k m a 2 z = a 2 z) ∧ ∀ j, ¬ j = 1 → ¬ j = 2 → itn (setZ sa) k m a j = a j
  | 0, k, a => ⟨fun z h1 h2 => by omega, fun _ _ => ⟨rfl, rfl⟩, fun _ _ _ => rfl⟩
  | m + 1, k, a => by
    obtain ⟨h1, h2, h3⟩ := itn_setZ m (k + 1) (setZ sa k a)
    have e1 : setZ sa k a 1 = upd (a 1) k (sa 1 k) := by unfold setZ; rw [upf_ne _ _ (by omega), upf_same]
    have e2 : setZ sa k a 2 = upd (a 2) k (sa 1 k) := by unfold setZ; rw [upf_same]
    refine ⟨fun z z1 z2 => ?_, fun z z1 => ?_, fun j j1 j2 => ?_⟩
    · by_cases e : z = k
      · have x := h2 z (by omega)
        rw [e1, e2, e, upd_e, upd_e] at x
        rw [e]
        exact x
      · exact h1 z (by omega) (by omega)
    · have x := h2 z (by omega)
      rw [e1, e2, upd_n (by omega), upd_n (by omega)] at x
      exact x
    · refine (h3 j j1 j2).trans ?_
      unfold setZ
      rw [upf_ne _ _ j2, upf_ne _ _ j1]
theorem itn_zero4 : ∀ (m k : Nat) (a : Nat → Nat → Int32), (∀ t, k ≤ t → t < k + m → ∀ j, 7 ≤ j → j ≤ 10 → itn zero4 k m a j t = 0) ∧ (∀ t, t < k → ∀ j, itn zero4 k m a j t = a j t) ∧ ∀ j, j < 7 → itn zero4 k m a j = a j
  | 0, k, a => ⟨fun t h1 h2 => by omega, fun _ _ _ => rfl, fun _ _ => rfl⟩
  | m + 1, k, a => by
    obtain ⟨h1, h2, h3⟩ := itn_zero4 m (k + 1) (zero4 k a)
    have e7 : zero4 k a 7 = upd (a 7) k 0 := by unfold zero4; rw [upf_ne _ _ (by omega), upf_ne _ _ (by omega), upf_ne _ _ (by omega), upf_same]
    have e8 : zero4 k a 8 = upd (a 8) k 0 := by unfold zero4; rw [upf_ne _ _ (by omega), upf_ne _ _ (by omega), upf_same]
    have e9 : zero4 k a 9 = upd (a 9) k 0 := by unfold zero4; rw [upf_ne _ _ (by omega), upf_same]
    have eA : zero4 k a 10 = upd (a 10) k 0 := by unfold zero4; rw [upf_same]
    have en : ∀ j, ¬ (7 ≤ j ∧ j ≤ 10) → zero4 k a j = a j := fun j h => by
      unfold zero4
      rw [upf_ne _ _ (by omega), upf_ne _ _ (by omega), upf_ne _ _ (by omega), upf_ne _ _ (by omega)]
    refine ⟨fun t t1 t2 j j1 j2 => ?_, fun t t1 j => ?_, fun j j1 => ?_⟩
    · by_cases e : t = k
      · refine (h2 t (by omega) j).trans ?_
        rw [e]
        have : j = 7 ∨ j = 8 ∨ j = 9 ∨ j = 10 := by omega
        rcases this with e | e | e | e <;> rw [e]
        · rw [e7, upd_e]
        · rw [e8, upd_e]
        · rw [e9, upd_e]
        · rw [eA, upd_e]
      · exact h1 t (by omega) (by omega) j j1 j2
    · refine (h2 t (by omega) j).trans ?_
      by_cases hj : 7 ≤ j ∧ j ≤ 10
      · have : j = 7 ∨ j = 8 ∨ j = 9 ∨ j = 10 := by omega
        rcases this with e | e | e | e <;> rw [e]
        · rw [e7, upd_n (by omega)]
        · rw [e8, upd_n (by omega)]
        · rw [e9, upd_n (by omega)]
        · rw [eA, upd_n (by omega)]
      · rw [en j hj]
    · exact (h3 j j1).trans (en j (by omega))
theorem st_f : (startL sa f a).1 1 = 0 ∧ (startL sa f a).1 2 = 0 ∧ (startL sa f a).1 3 = -1 ∧ (startL sa f a).1 4 = 0 := by
  unfold startL readyL
  refine ⟨?_, ?_, ?_, ?_⟩
  · show upf (upf (upf (upf f 1 0) 2 0) 3 (-1)) 4 0 1 = 0
    rw [upf_ne _ _ (by omega), upf_ne _ _ (by omega), upf_ne _ _ (by omega), upf_same]
  · show upf (upf (upf (upf f 1 0) 2 0) 3 (-1)) 4 0 2 = 0
    rw [upf_ne _ _ (by omega), upf_ne _ _ (by omega), upf_same]
  · show upf (upf (upf (upf f 1 0) 2 0) 3 (-1)) 4 0 3 = -1
    rw [upf_ne _ _ (by omega), upf_same]
  · show upf (upf (upf (upf f 1 0) 2 0) 3 (-1)) 4 0 4 = 0
    rw [upf_same]
theorem st_a : (∀ z, z < 6 → (startL sa f a).2 1 z = sa 1 z ∧ (startL sa f a).2 2 z = sa 1 z ∧ (startL sa f a).2 3 z = noHold (a 3) z) ∧ ∀ t, t < 20 → ∀ j, 7 ≤ j → j ≤ 10 → (startL sa f a).2 j t = 0 := by
  have e : (startL sa f a).2 = itn zero4 0 20 (itn (setZ sa) 0 6 (readyL (upf (upf f 1 0) 2 0, a)).2) := rfl
  rw [e]
  obtain ⟨X, hX⟩ : ∃ X, X = (readyL (upf (upf f 1 0) 2 0, a)).2 := ⟨_, rfl⟩
  rw [← hX]
  obtain ⟨q1, q2, q3⟩ := itn_setZ (sa := sa) 6 0 X
  obtain ⟨Y, hY⟩ : ∃ Y, Y = itn (setZ sa) 0 6 X := ⟨_, rfl⟩
  rw [← hY] at q1 q2 q3 ⊢
  obtain ⟨p1, p2, p3⟩ := itn_zero4 20 0 Y
  obtain ⟨V, hV⟩ : ∃ V, V = itn zero4 0 20 Y := ⟨_, rfl⟩
  rw [← hV] at p1 p2 p3 ⊢
  refine ⟨fun z hz => ⟨?_, ?_, ?_⟩, fun t ht j j1 j2 => p1 t (by omega) (by omega) j j1 j2⟩
  · rw [p3 1 (by omega)]; exact (q1 z (by omega) (by omega)).1
  · rw [p3 2 (by omega)]; exact (q1 z (by omega) (by omega)).2
  · rw [p3 3 (by omega), q3 3 (by omega) (by omega), hX]
    show upf a 3 (noHold (a 3)) 3 z = _
    rw [upf_same]
/-- what the zones of the text leave -/
theorem zAll_at : ∀ (zs : List Z5) (k : Nat) (a : Nat → Nat → Int32), (∀ z, z < zs.length → zAll zs k a 1 (k + z) = nI (zs.getD z dz5).1 ∧ zAll zs k a 2 (k + z) = nI (zs.getD z dz5).2.1 ∧ zAll zs k a 3 (k + z) = nI (zs.getD z dz5).2.2.1 ∧ zAll zs k a 4 (k + z) = nI (zs.getD z dz5).2.2.2.1 ∧ zAll zs k a 5 (k + z) = nI (zs.getD z dz5).2.2.2.2) ∧ (∀ j z, z < k → zAll zs k a j z = a j z) ∧ ∀ j, 6 ≤ j → zAll zs k a j = a j
  | [], k, a => ⟨fun z h => absurd h (Nat.not_lt_zero _), fun _ _ _ => rfl, fun _ _ => rfl⟩
  | v :: vs, k, a => by
    obtain ⟨h1, h2, h3⟩ := zAll_at vs (k + 1) (zW a k (nI v.1) (nI v.2.1) (nI v.2.2.1) (nI v.2.2.2.1) (nI v.2.2.2.2))
    have e1 : zW a k (nI v.1) (nI v.2.1) (nI v.2.2.1) (nI v.2.2.2.1) (nI v.2.2.2.2) 1 = upd (a 1) k (nI v.1) := by unfold zW; rw [upf_ne _ _ (by omega), upf_ne _ _ (by omega), upf_ne _ _ (by omega), upf_ne _ _ (by omega), upf_same]
    have e2 : zW a k (nI v.1) (nI v.2.1) (nI v.2.2.1) (nI v.2.2.2.1) (nI v.2.2.2.2) 2 = upd (a 2) k (nI v.2.1) := by unfold zW; rw [upf_ne _ _ (by omega), upf_ne _ _ (by omega), upf_ne _ _ (by omega), upf_same]
    have e3 : zW a k (nI v.1) (nI v.2.1) (nI v.2.2.1) (nI v.2.2.2.1) (nI v.2.2.2.2) 3 = upd (a 3) k (nI v.2.2.1) := by unfold zW; rw [upf_ne _ _ (by omega), upf_ne _ _ (by omega), upf_same]
    have e4 : zW a k (nI v.1) (nI v.2.1) (nI v.2.2.1) (nI v.2.2.2.1) (nI v.2.2.2.2) 4 = upd (a 4) k (nI v.2.2.2.1) := by unfold zW; rw [upf_ne _ _ (by omega), upf_same]
    have e5 : zW a k (nI v.1) (nI v.2.1) (nI v.2.2.1) (nI v.2.2.2.1) (nI v.2.2.2.2) 5 = upd (a 5) k (nI v.2.2.2.2) := by unfold zW; rw [upf_same]
    have en : ∀ j, ¬ (1 ≤ j ∧ j ≤ 5) → zW a k (nI v.1) (nI v.2.1) (nI v.2.2.1) (nI v.2.2.2.1) (nI v.2.2.2.2) j = a j := fun j h => by
      unfold zW
      rw [upf_ne _ _ (by omega), upf_ne _ _ (by omega), upf_ne _ _ (by omega), upf_ne _ _ (by omega), upf_ne _ _ (by omega)]
    refine ⟨fun z hz => ?_, fun j z hz => ?_, fun j hj => (h3 j hj).trans (en j (by omega))⟩
    · match z, hz with
      | 0, _ =>
        have x := fun j => h2 j k (by omega)
        refine ⟨?_, ?_, ?_, ?_, ?_⟩
        · exact (x 1).trans (by rw [e1, upd_e]; rfl)
        · exact (x 2).trans (by rw [e2, upd_e]; rfl)
        · exact (x 3).trans (by rw [e3, upd_e]; rfl)
        · exact (x 4).trans (by rw [e4, upd_e]; rfl)
        · exact (x 5).trans (by rw [e5, upd_e]; rfl)
      | z + 1, hz =>
        have x := h1 z (by have hz : z + 1 < vs.length + 1 := hz; omega)
        rw [Nat.add_assoc, Nat.add_comm 1 z] at x
        exact x
    · refine (h2 j z (by omega)).trans ?_
      by_cases hj : 1 ≤ j ∧ j ≤ 5
      · have : j = 1 ∨ j = 2 ∨ j = 3 ∨ j = 4 ∨ j = 5 := by omega
        rcases this with e | e | e | e | e <;> rw [e]
        · rw [e1, upd_n (by omega)]
        · rw [e2, upd_n (by omega)]
        · rw [e3, upd_n (by omega)]
        · rw [e4, upd_n (by omega)]
        · rw [e5, upd_n (by omega)]
      · rw [en j hj]
theorem bAll_o : ∀ (bs : List B3) (a : Nat → Nat → Int32) (j : Nat), ¬ j = 6 → ¬ j = 7 → bAll bs a j = a j
  | [], _, _, _, _ => rfl
  | v :: vs, a, j, h6, h7 => by
    refine (bAll_o vs _ j h6 h7).trans ?_
    unfold bW
    rw [upf_ne _ _ h7, upf_ne _ _ h6]
theorem noH {g : Nat → Int32} : ∀ z, z < 6 → noHold g z = -1 := by
  intro z hz
  unfold noHold
  show upd (upd (upd (upd (upd (upd g 0 (-1)) 1 (-1)) 2 (-1)) 3 (-1)) 4 (-1)) 5 (-1) z = -1
  unfold upd
  match z, hz with
  | 0, _ => rfl
  | 1, _ => rfl
  | 2, _ => rfl
  | 3, _ => rfl
  | 4, _ => rfl
  | 5, _ => rfl
theorem m1_at : ∀ t, t < 20 → m1row t = -1 := by
  intro t ht
  have gen : ∀ (m k : Nat) (f : Nat → Int32) (t : Nat), (k ≤ t ∧ t < k + m → itn (fun k (f : Nat → Int32) => upd f k (-1)) k m f t = -1) ∧ (t < k → itn (fun k (f : Nat → Int32) => upd f k (-1)) k m f t = f t) := fun m => by
    induction m with
    | zero => intro k f t; exact ⟨fun h => by omega, fun _ => rfl⟩
    | succ m ih =>
      intro k f t
      have x := ih (k + 1) (upd f k (-1)) t
      refine ⟨fun h => ?_, fun h => (x.2 (by omega)).trans (upd_n (by omega))⟩
      by_cases e : t = k
      · exact (x.2 (by omega)).trans (by rw [e]; exact upd_e)
      · exact x.1 ⟨by omega, by omega⟩
  exact (gen 20 0 _ t).1 ⟨by omega, by omega⟩
end STR
