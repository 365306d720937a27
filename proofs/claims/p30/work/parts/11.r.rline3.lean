/-! RANDOM LINE: the whole method -/
/-- the new line's cells -/
def DRL (l n : Nat) (i j : Nat) : Nat := if i = 0 then (if j = 0 then l + 27 + 2 * n else if j = 1 then l + 27 else if j = 2 then l + 3 else if j = 3 then l + 4 else l + 5) else if i = 1 then l + 28 + 2 * j else if i = 2 then 0 else l + 6 + j
def cRL (l n i : Nat) : Nat × Nat := if i = l then (9, 0) else if i = l + 27 + 2 * n then (0, 0) else if i = l + 27 then (0, 1) else if i = l + 3 then (0, 2) else if i = l + 4 then (0, 3) else if i = l + 5 then (0, 4) else if i < l + 26 then (3, i - (l + 6)) else (1, (i - (l + 28)) / 2)
theorem cRL_ok {l n : Nat} (hn : 0 < n) : cRL l n l = (9, 0) ∧ (∀ j, j < 5 → cRL l n (DRL l n 0 j) = (0, j)) ∧ (∀ z, z < n → cRL l n (DRL l n 1 z) = (1, z)) ∧ ∀ t, t < 20 → cRL l n (DRL l n 3 t) = (3, t) := by
  refine ⟨if_pos rfl, fun j hj => ?_, fun z hz => ?_, fun t ht => ?_⟩
  · match j, hj with
    | 0, _ =>
      show cRL l n (l + 27 + 2 * n) = _
      unfold cRL
      rw [if_neg (by omega), if_pos rfl]
    | 1, _ =>
      show cRL l n (l + 27) = _
      unfold cRL
      rw [if_neg (by omega), if_neg (by omega), if_pos rfl]
    | 2, _ =>
      show cRL l n (l + 3) = _
      unfold cRL
      rw [if_neg (by omega), if_neg (by omega), if_neg (by omega), if_pos rfl]
    | 3, _ =>
      show cRL l n (l + 4) = _
      unfold cRL
      rw [if_neg (by omega), if_neg (by omega), if_neg (by omega), if_neg (by omega), if_pos rfl]
    | 4, _ =>
      show cRL l n (l + 5) = _
      unfold cRL
      rw [if_neg (by omega), if_neg (by omega), if_neg (by omega), if_neg (by omega), if_neg (by omega), if_pos rfl]
  · show cRL l n (l + 28 + 2 * z) = _
    unfold cRL
    rw [if_neg (by omega), if_neg (by omega), if_neg (by omega), if_neg (by omega), if_neg (by omega), if_neg (by omega), if_neg (by omega), show l + 28 + 2 * z - (l + 28) = 2 * z by omega, Nat.mul_div_cancel_left _ (by omega)]
  · show cRL l n (l + 6 + t) = _
    unfold cRL
    rw [if_neg (by omega), if_neg (by omega), if_neg (by omega), if_neg (by omega), if_neg (by omega), if_neg (by omega), if_pos (by omega), show l + 6 + t - (l + 6) = t by omega]
theorem DRL_ad {l n i : Nat} (h : Ad l (DRL l n) n 0 i) : l ≤ i ∧ i < l + 28 + 2 * n := by
  rcases h with h | ⟨j, hj, h⟩ | ⟨z, hz, h⟩ | ⟨s, hs, h⟩ | ⟨t, ht, h⟩
  · omega
  · match j, hj, h with
    | 0, _, h => have h : i = l + 27 + 2 * n := h; omega
    | 1, _, h => have h : i = l + 27 := h; omega
    | 2, _, h => have h : i = l + 3 := h; omega
    | 3, _, h => have h : i = l + 4 := h; omega
    | 4, _, h => have h : i = l + 5 := h; omega
  · have h : i = l + 28 + 2 * z := h
    omega
  · exact absurd hs (Nat.not_lt_zero _)
  · have h : i = l + 6 + t := h
    omega
section RLW
variable {d u r l n q1 q2 nx kp ln : Nat} {g : AH} {T : Nat → Bool} {U S A : Nat → Nat → Int32} {J : Nat → Nat → Int64} {G : Nat → Nat} {K : AO → AH → Prop} {zs : List Z5} {bs : List B3} {a : Nat → Nat → Int32} {f q pg : Nat → Int32} {tv : Value} {ht : List Nat} {L : List Int32} {B : Nat → Prop}
/-- a line just loaded -/
theorem rl_new (hL : RLn g l n q1 q2 zs tv) (hn : n = zs.length ∧ 1 ≤ n ∧ n ≤ 4) (hq1 : 1 ≤ q1 ∧ q1 ≤ 9) (hq2 : q2 ≤ 20) (hzs : ∀ v, v ∈ zs → zoK v) (hbt : ∀ t, t < 20 → BdR g B (hR g (l + 4) t) (bAll bs (zAll zs 0 a0) 6 t) (bAll bs (zAll zs 0 a0) 7 t)) (hB : ∀ i, B i → l + 28 + 2 * zs.length ≤ i) (hht : HtK g B ht tv L) (hq : q 0 = nI zs.length ∧ q 1 = nI q1 ∧ q 2 = nI q2) (hpg : ∀ j, j < L.length → pg j = L.getD j 0) (hf : f = (startL (bAll bs (zAll zs 0 a0)) (S 28) (fun j => A (28 + j))).1) (ha : ∀ j, 1 ≤ j → j ≤ 10 → a j = (startL (bAll bs (zAll zs 0 a0)) (S 28) (fun j => A (28 + j))).2 j) : LLn g B l (DRL l n) n 0 q (bAll bs (zAll zs 0 a0)) tv pg L.length f a (fun _ => 0) := by
  obtain ⟨⟨⟨kl, lN⟩, ⟨f0, f1, f2, f3, f4⟩, ⟨f6, f7, f8, f9⟩, nN⟩, ⟨zr, y1, ⟨y2, y3⟩, ⟨y4, y5⟩, y6, y6', y7⟩, ⟨⟨a1, a2⟩, ⟨a3, a4⟩, ⟨a5, a6⟩, ⟨a7, a8⟩⟩, hzr, htr⟩ := hL
  obtain ⟨hn0, hn1, hn4⟩ := hn
  have y6 := y6 (by omega)
  rw [← hn0] at y3 y6 y7 hzr hB nN
  have e0 : zr = l + 27 + 2 * n := by omega
  rw [e0] at y1 y2 y3 y7
  obtain ⟨sf1, sf2, sf3, sf4⟩ := st_f (sa := bAll bs (zAll zs 0 a0)) (f := S 28) (a := fun j => A (28 + j))
  obtain ⟨sz, st⟩ := st_a (sa := bAll bs (zAll zs 0 a0)) (f := S 28) (a := fun j => A (28 + j))
  rw [← hf] at sf1 sf2 sf3 sf4
  have za := (zAll_at zs 0 a0).1
  have sa1 : ∀ z, z < n → bAll bs (zAll zs 0 a0) 1 z = nI (zs.getD z dz5).1 ∧ bAll bs (zAll zs 0 a0) 2 z = nI (zs.getD z dz5).2.1 ∧ bAll bs (zAll zs 0 a0) 3 z = nI (zs.getD z dz5).2.2.1 ∧ bAll bs (zAll zs 0 a0) 4 z = nI (zs.getD z dz5).2.2.2.1 ∧ bAll bs (zAll zs 0 a0) 5 z = nI (zs.getD z dz5).2.2.2.2 := fun z hz => by
    have x := za z (by omega)
    rw [Nat.zero_add] at x
    rw [bAll_o _ _ 1 (by omega) (by omega), bAll_o _ _ 2 (by omega) (by omega), bAll_o _ _ 3 (by omega) (by omega), bAll_o _ _ 4 (by omega) (by omega), bAll_o _ _ 5 (by omega) (by omega)]
    exact x
  have zk : ∀ z, z < n → zoK (zs.getD z dz5) := fun z hz => by
    refine hzs _ ?_
    rw [List.getD_eq_getElem?_getD, List.getElem?_eq_getElem (by omega)]
    exact List.getElem_mem _
  have ea1 : ∀ z, z < n → a 1 z = nI (zs.getD z dz5).1 ∧ a 2 z = nI (zs.getD z dz5).1 ∧ a 3 z = -1 := fun z hz => by
    have x := sz z (by omega)
    rw [ha 1 (by omega) (by omega), ha 2 (by omega) (by omega), ha 3 (by omega) (by omega), x.1, x.2.1, x.2.2, noH z (by omega), (sa1 z hz).1]
    exact ⟨rfl, rfl, rfl⟩
  have n9 : ∀ v : Nat, 20 ≤ v → v ≤ 900 → (20 : Int32) ≤ nI v ∧ nI v ≤ 900 := fun v h1 h2 => rng (lo := 20) (hi := 900) ⟨h1, h2⟩ (by omega)
  refine ⟨⟨⟨kl, ?_, ?_, ?_, ⟨0, f3, Or.inl sf3⟩, f4, y1, f6, f7, f8, f9⟩, ⟨⟨y2, y3⟩, ⟨a1, a2⟩, ⟨a3, a4⟩, ⟨a5, a6⟩, ⟨a7, a8⟩⟩, fun z hz => ?_, fun z hz => ?_, fun s hs => absurd hs (Nat.not_lt_zero _), fun t ht => ?_, fun t ht => ?_⟩, ⟨⟨⟨cRL l n, ?_, ?_, ?_, ?_, ?_⟩, fun i hi hw => ?_⟩, fun i hi => ?_⟩, ?_, ⟨⟨sf2, by omega, fun _ => rfl⟩, Or.inl ⟨sf3, sf4⟩, ⟨fun z hz => Or.inl (ea1 z hz).2.2, fun z z' hz hz' _ _ => (ea1 z hz).2.2⟩, fun z hz => ?_, fun s hs => absurd hs (Nat.not_lt_zero _), fun k hk => ?_⟩, ⟨fun s hs => absurd hs (Nat.not_lt_zero _), fun s hs => absurd hs (Nat.not_lt_zero _)⟩, ⟨?_, by omega⟩, fun _ => ?_, fun z hz => ?_⟩
  · rw [sf1]; exact f0
  · rw [hq.2.1]; exact f1
  · rw [hq.2.2]; exact f2
  · obtain ⟨r1, ⟨r2, r3⟩, r4, r5⟩ := hzr z hz
    have r3' : hl g (l + 28 + 2 * z) = 5 := r3
    obtain ⟨t1, t2, t3, t4, t5⟩ := sa1 z hz
    refine ⟨y7 z hz, ⟨r2, r3'⟩, ?_, ?_, ?_, ?_, ?_⟩
    · rw [(ea1 z hz).1]; exact r5 0 (by show 0 < 5; omega)
    · rw [t2]; exact r5 1 (by show 1 < 5; omega)
    · rw [t3]; exact r5 2 (by show 2 < 5; omega)
    · rw [t4]; exact r5 3 (by show 3 < 5; omega)
    · rw [t5]; exact r5 4 (by show 4 < 5; omega)
  · rw [(ea1 z hz).2.1]
    exact (hzr z hz).1
  · exact hbt t ht
  · obtain ⟨t1, ⟨t2, t3⟩, t4⟩ := htr t ht
    have t4' : hA g (DRL l n 3 t) = fun _ => 0 := t4
    rw [t4', ha 7 (by omega) (by omega), ha 8 (by omega) (by omega), ha 9 (by omega) (by omega), ha 10 (by omega) (by omega), st t ht 7 (by omega) (by omega), st t ht 8 (by omega) (by omega), st t ht 9 (by omega) (by omega), st t ht 10 (by omega) (by omega)]
    exact ⟨t1, ⟨t2, t3⟩, rfl, rfl, rfl, rfl⟩
  · exact (cRL_ok hn1).1
  · exact (cRL_ok hn1).2.1
  · exact (cRL_ok hn1).2.2.1
  · exact fun s hs => absurd hs (Nat.not_lt_zero _)
  · exact (cRL_ok hn1).2.2.2
  · have x := DRL_ad hw
    have y := hB i hi
    omega
  · have x := DRL_ad hi
    omega
  · rcases hht with ⟨-, h2, h3⟩ | ⟨aa, tx, V, h1, h2, h3⟩
    · refine Or.inl ⟨h2, by rw [h3]; rfl, ?_, ?_, ?_⟩
      · rw [hpg 0 (by rw [h3]; show 0 < 3; omega), h3]; rfl
      · rw [hpg 1 (by rw [h3]; show 1 < 3; omega), h3]; rfl
      · rw [hpg 2 (by rw [h3]; show 2 < 3; omega), h3]; rfl
    · exact Or.inr ⟨aa, tx, L, V, h2, h3, rfl, hpg⟩
  · obtain ⟨c1, c2, c3, c4, c5⟩ := zk z hz
    rw [(ea1 z hz).1, (ea1 z hz).2.1]
    exact ⟨rng (lo := 100) (hi := 900) c1 (by omega), n9 _ (by omega) c1.2⟩
  · rw [ha 10 (by omega) (by omega), st k hk 10 (by omega) (by omega)]
    decide
  · rw [hq.1, ← hn0]
  · rw [hq.2.1, hq.2.2]
    exact ⟨rng (lo := 1) (hi := 9) hq1 (by omega), rng (lo := 0) (hi := 20) ⟨by omega, hq2⟩ (by omega)⟩
  · obtain ⟨c1, c2, c3, c4, c5⟩ := zk z hz
    rw [(sa1 z hz).2.1, (sa1 z hz).2.2.1]
    exact ⟨rng (lo := 1) (hi := 99) c2 (by omega), rng (lo := 1) (hi := 999) c3 (by omega)⟩
end RLW
