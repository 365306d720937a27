/-! FACE: load, the line that starts -/
theorem itn_sz {sa : Nat → Nat → Int32} : ∀ (m k : Nat) (a : Nat → Nat → Int32), (itn (setZ sa) k m a) 1 = itn (fun k (g : Nat → Int32) => upd g k (sa 1 k)) k m (a 1) ∧ (itn (setZ sa) k m a) 2 = itn (fun k (g : Nat → Int32) => upd g k (sa 1 k)) k m (a 2) ∧ ∀ j, ¬ j = 1 → ¬ j = 2 → (itn (setZ sa) k m a) j = a j
  | 0, k, a => ⟨rfl, rfl, fun _ _ _ => rfl⟩
  | m + 1, k, a => by
    obtain ⟨h1, h2, h3⟩ := itn_sz (sa := sa) m (k + 1) (setZ sa k a)
    refine ⟨?_, ?_, fun j j1 j2 => ?_⟩
    · rw [itn, h1]
      rfl
    · rw [itn, h2]
      rfl
    · rw [itn, h3 j j1 j2]
      unfold setZ
      rw [upf_ne _ _ j2, upf_ne _ _ j1]
theorem z4_r {k j : Nat} {a : Nat → Nat → Int32} : (7 ≤ j ∧ j ≤ 10 → zero4 k a j = upd (a j) k 0) ∧ (j < 7 → zero4 k a j = a j) := by
  unfold zero4
  refine ⟨fun h => ?_, fun h => ?_⟩
  · rcases (show j = 7 ∨ j = 8 ∨ j = 9 ∨ j = 10 by omega) with e | e | e | e <;> subst e <;> rfl
  · rw [upf_ne _ _ (by omega), upf_ne _ _ (by omega), upf_ne _ _ (by omega), upf_ne _ _ (by omega)]
theorem itn_z4 : ∀ (m k : Nat) (a : Nat → Nat → Int32), (∀ j, 7 ≤ j ∧ j ≤ 10 → (itn zero4 k m a) j = itn (fun k (g : Nat → Int32) => upd g k 0) k m (a j)) ∧ ∀ j, j < 7 → (itn zero4 k m a) j = a j
  | 0, k, a => ⟨fun _ _ => rfl, fun _ _ => rfl⟩
  | m + 1, k, a => by
    obtain ⟨h1, h2⟩ := itn_z4 m (k + 1) (zero4 k a)
    refine ⟨fun j hj => ?_, fun j hj => ?_⟩
    · rw [itn, h1 j hj, itn, z4_r.1 hj]
    · rw [itn, h2 j hj, z4_r.2 hj]
theorem start_2 {sa a : Nat → Nat → Int32} {f : Nat → Int32} : (startL sa f a).2 = itn zero4 0 20 (itn (setZ sa) 0 6 (readyL (upf (upf f 1 0) 2 0, a)).2) := by unfold startL; rfl
section ST
variable {h : AH} {T : Nat → Bool} {t n nz g : Nat} {q pg f D : Nat → Int32} {a sa : Nat → Nat → Int32} {hs sn : Int32}
theorem LR_start (hU : SUp h T g t q sa n pg) (hN1 : g + 7 < hN h) (hN2 : t + 2 < hN h) (hD : DJ q sa n pg D hs sn nz) (h0 : 0 < nz) : LR h T g (startL sa f a).1 (startL sa f a).2 D := by
  obtain ⟨⟨d1, d2, d3⟩, ⟨c1, c2, c5⟩, ⟨e3, e4, eq1, eq2⟩, hz, h6, hk, hx, -⟩ := hD
  obtain ⟨s1, s2, s3⟩ := itn_sz (sa := sa) 6 0 (readyL (upf (upf f 1 0) 2 0, a)).2
  obtain ⟨z1, z2⟩ := itn_z4 20 0 (itn (setZ sa) 0 6 (readyL (upf (upf f 1 0) 2 0, a)).2)
  have r1 : ∀ z, z < 6 → (startL sa f a).2 1 z = sa 1 z := fun z hz => by
    rw [start_2, z2 1 (by omega), s1, itn_up]
    exact if_pos ⟨Nat.zero_le _, by omega⟩
  have r2 : ∀ z, z < 6 → (startL sa f a).2 2 z = sa 1 z := fun z hz => by
    rw [start_2, z2 2 (by omega), s2, itn_up]
    exact if_pos ⟨Nat.zero_le _, by omega⟩
  have r3 : ∀ z, z < 6 → (startL sa f a).2 3 z = -1 := fun z hz => by
    rw [start_2, z2 3 (by omega), s3 3 (by decide) (by decide)]
    show noHold (a 3) z = -1
    unfold noHold
    rw [itn_up (w := fun _ => -1)]
    exact if_pos ⟨Nat.zero_le _, by omega⟩
  have rk : ∀ j k, 7 ≤ j → j ≤ 10 → k < 20 → (startL sa f a).2 j k = 0 := fun j k j1 j2 hk => by
    rw [start_2, z1 j ⟨j1, j2⟩, itn_up (w := fun _ => 0)]
    exact if_pos ⟨Nat.zero_le _, by omega⟩
  refine ⟨t, q, sa, n, pg, nz, 0, hU, ⟨hN1, hN2⟩, ⟨⟨d1, d2, d3⟩, ⟨e3, e4, fun _ => ⟨eq1, eq2⟩⟩, fun z hz' => ?_, fun k hk' => (hk k hk').2, hx⟩, ⟨⟨rfl, by omega, fun e => rfl⟩, Or.inl ⟨rfl, rfl⟩, ⟨fun z hz' => Or.inl (r3 z (by omega)), fun z z' hz' _ _ _ => r3 z (by omega)⟩, fun z hz' => ?_, fun s hs => absurd hs (by omega), fun k hk' => ?_⟩, ⟨⟨c1, c2, ?_, Or.inl rfl⟩, fun z hz' => ⟨?_, ?_, ?_⟩, fun s hs => absurd hs (by omega), fun k hk' => ?_⟩, 0, by omega, rfl, fun j k j1 j2 hk' => ⟨0, Nat.le_refl _, rk j k j1 (by omega) hk'⟩⟩
  · have zr := hz z hz'
    unfold zR at zr
    exact ⟨⟨zr.1.2.1, zr.1.2.2.1, zr.1.2.2.2.1, zr.1.2.2.2.2.1⟩, zr.2.2.1, zr.2.2.2⟩
  · have zr := hz z hz'
    unfold zR at zr
    rw [r1 z (by omega), r2 z (by omega)]
    exact ⟨zr.2.1, i32_le_tr (by decide) zr.2.1.1, zr.2.1.2⟩
  · rw [rk 10 k (by omega) (by omega) hk']
    decide
  · rw [c5]
    show (0 : Int32) = -1 + 1
    rfl
  · have zr := hz z hz'
    unfold zR at zr
    rw [r1 z (by omega)]
    exact zr.1.1
  · have zr := hz z hz'
    unfold zR at zr
    rw [r2 z (by omega)]
    exact zr.1.2.2.2.2.2
  · rw [r3 z (by omega), h6 z (by omega)]
    rfl
  · have e := (hk k hk').1
    rw [rk 7 k (by omega) (by omega) hk', rk 8 k (by omega) (by omega) hk', rk 9 k (by omega) (by omega) hk', rk 10 k (by omega) (by omega) hk']
    exact e
end ST
