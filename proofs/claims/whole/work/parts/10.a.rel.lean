/-! THE LINE: what the class and the reference keep of it -/
def STA (nz : Nat) (q : Nat → Int32) (sa : Nat → Nat → Int32) (n : Nat) (pg D : Nat → Int32) : Prop :=
  (q 0 = nI nz ∧ nz ≤ 6 ∧ D 0 = nI nz) ∧ (D 3 = q 1 ∧ D 4 = q 2 ∧ (0 < nz → (1 ≤ q 1 ∧ q 1 ≤ 9) ∧ 0 ≤ q 2 ∧ q 2 ≤ 20)) ∧
  (∀ z, z < nz → (D (9 + 7 * z + 1) = sa 2 z ∧ D (9 + 7 * z + 2) = sa 3 z ∧ D (9 + 7 * z + 3) = sa 4 z ∧ D (9 + 7 * z + 4) = sa 5 z) ∧ (1 ≤ sa 2 z ∧ sa 2 z ≤ 99) ∧ (1 ≤ sa 3 z ∧ sa 3 z ≤ 999)) ∧
  (∀ k, k < 20 → bR sa D k) ∧ HX n pg D
def EQL (nz ns : Nat) (f : Nat → Int32) (a : Nat → Nat → Int32) (D : Nat → Int32) : Prop :=
  (D 1 = nI ns ∧ D 2 = f 1 ∧ D 5 = f 3 + 1 ∧ (f 3 = -1 ∨ D 6 = f 4)) ∧
  (∀ z, z < nz → D (9 + 7 * z) = a 1 z ∧ D (9 + 7 * z + 5) = a 2 z ∧ D (9 + 7 * z + 6) = a 3 z + 1) ∧
  (∀ s, s < ns → D (51 + 3 * s) = a 4 s ∧ D (51 + 3 * s + 1) = a 5 s ∧ D (51 + 3 * s + 2) = a 6 s) ∧
  (∀ k, k < 20 → D (111 + 7 * k) = a 7 k ∧ D (111 + 7 * k + 1) = a 8 k ∧ D (111 + 7 * k + 2) = a 9 k ∧ D (111 + 7 * k + 3) = a 10 k)
def H3 (nz ns : Nat) (g st : Nat → Int32) : Prop := (∀ z, z < nz → g z = -1 ∨ ∃ s, s < ns ∧ g z = nI s ∧ st s = 1) ∧ ∀ z z', z < nz → z' < nz → ¬ z = z' → g z = g z' → g z = -1
def Q3 (ns : Nat) (x y : Int32) (st : Nat → Int32) : Prop := (x = -1 ∧ y = 0) ∨ ∃ s, s < ns ∧ x = nI s ∧ 1 ≤ y ∧ st s = 2
def INV (nz ns : Nat) (f : Nat → Int32) (a : Nat → Nat → Int32) : Prop :=
  (f 2 = nI ns ∧ ns ≤ 20 ∧ (nz = 0 → ns = 0)) ∧ Q3 ns (f 3) (f 4) (a 6) ∧ H3 nz ns (a 3) (a 6) ∧
  (∀ z, z < nz → (100 ≤ a 1 z ∧ a 1 z ≤ 900) ∧ 20 ≤ a 2 z ∧ a 2 z ≤ 900) ∧
  (∀ s, s < ns → (2 ≤ a 4 s ∧ a 4 s ≤ 19) ∧ (20 ≤ a 5 s ∧ a 5 s ≤ 900) ∧ 0 ≤ a 6 s ∧ a 6 s ≤ 5) ∧
  (∀ k, k < 20 → -50 ≤ a 10 k ∧ a 10 k ≤ 50)
theorem STA_congr {nz n : Nat} {q pg D D' : Nat → Int32} {sa : Nat → Nat → Int32} (h0 : D' 0 = D 0) (h3 : D' 3 = D 3) (h4 : D' 4 = D 4) (h7 : D' 7 = D 7) (h8 : D' 8 = D 8) (hz : ∀ z j, z < 6 → 1 ≤ j → j ≤ 4 → D' (9 + 7 * z + j) = D (9 + 7 * z + j)) (hk : ∀ k j, k < 20 → 4 ≤ j → j ≤ 6 → D' (111 + 7 * k + j) = D (111 + 7 * k + j)) (hc : ∀ j, 251 ≤ j → D' j = D j) (h : STA nz q sa n pg D) : STA nz q sa n pg D' := by
  obtain ⟨⟨a1, a2, a3⟩, ⟨b1, b2, b3⟩, c, d, e⟩ := h
  refine ⟨⟨a1, a2, h0.trans a3⟩, ⟨h3.trans b1, h4.trans b2, b3⟩, fun z hz' => ?_, fun k hk' => ?_, HX_congr h7 h8 (fun j _ => hc _ (by omega)) e⟩
  · obtain ⟨⟨c1, c2, c3, c4⟩, c5⟩ := c z hz'
    exact ⟨⟨(hz z 1 (by omega) (by omega) (by omega)).trans c1, (hz z 2 (by omega) (by omega) (by omega)).trans c2, (hz z 3 (by omega) (by omega) (by omega)).trans c3, (hz z 4 (by omega) (by omega) (by omega)).trans c4⟩, c5⟩
  · have d' := d k hk'
    unfold bR at d' ⊢
    rw [hk k 4 hk' (by omega) (by omega), hk k 5 hk' (by omega) (by omega), hk k 6 hk' (by omega) (by omega)]
    exact d'
theorem STA_upd {nz n i : Nat} {q pg D : Nat → Int32} {sa : Nat → Nat → Int32} {v : Int32} (hi : i = 1 ∨ i = 2 ∨ i = 5 ∨ i = 6 ∨ (∃ z, z < 6 ∧ (i = 9 + 7 * z ∨ i = 9 + 7 * z + 5 ∨ i = 9 + 7 * z + 6)) ∨ (51 ≤ i ∧ i < 111) ∨ ∃ k, k < 20 ∧ (i = 111 + 7 * k ∨ i = 111 + 7 * k + 1 ∨ i = 111 + 7 * k + 2 ∨ i = 111 + 7 * k + 3)) (h : STA nz q sa n pg D) : STA nz q sa n pg (upd D i v) := by
  have hf : (i = 1 ∨ i = 2 ∨ i = 5 ∨ i = 6) ∨ (9 ≤ i ∧ i < 51 ∧ ((i - 9) % 7 = 0 ∨ (i - 9) % 7 = 5 ∨ (i - 9) % 7 = 6)) ∨ (51 ≤ i ∧ i < 111) ∨ (111 ≤ i ∧ i < 251 ∧ (i - 111) % 7 ≤ 3) := by
    rcases hi with e | e | e | e | ⟨z, hz, e⟩ | e | ⟨k, hk, e⟩ <;> omega
  clear hi
  exact STA_congr (upd_nz (by omega)) (upd_nz (by omega)) (upd_nz (by omega)) (upd_nz (by omega)) (upd_nz (by omega)) (fun z j _ _ _ => upd_nz (by omega)) (fun k j _ _ _ => upd_nz (by omega)) (fun j _ => upd_nz (by omega)) h
section EQU
variable {nz ns x : Nat} {f D : Nat → Int32} {a : Nat → Nat → Int32} {v w : Int32}
theorem EQ_1 (hnz : nz ≤ 6) (hns : ns ≤ 20) (hx : x < 6) (h : EQL nz ns f a D) : EQL nz ns f (upf a 1 (upd (a 1) x v)) (upd D (9 + 7 * x) v) := by
  obtain ⟨⟨a1, a2, a3, a4⟩, b, c, d⟩ := h
  refine ⟨⟨(upd_nz (by omega)).trans a1, (upd_nz (by omega)).trans a2, (upd_nz (by omega)).trans a3, a4.imp id (fun e => (upd_nz (by omega)).trans e)⟩, fun y hy => ?_, fun y hy => ?_, fun y hy => ?_⟩
  · obtain ⟨e0, e1, e2⟩ := b y hy
    by_cases hxy : y = x
    · subst hxy
      exact ⟨upd_eq.trans (by rw [upf_same, upd_eq]), (upd_nz (by omega)).trans (e1.trans (by rw [upf_ne a _ (by decide)])), (upd_nz (by omega)).trans (e2.trans (by rw [upf_ne a _ (by decide)]))⟩
    · exact ⟨(upd_nz (by omega)).trans (e0.trans (by rw [upf_same, upd_nz hxy])), (upd_nz (by omega)).trans (e1.trans (by rw [upf_ne a _ (by decide)])), (upd_nz (by omega)).trans (e2.trans (by rw [upf_ne a _ (by decide)]))⟩
  · obtain ⟨e0, e1, e2⟩ := c y hy
    exact ⟨(upd_nz (by omega)).trans (e0.trans (by rw [upf_ne a _ (by decide)])), (upd_nz (by omega)).trans (e1.trans (by rw [upf_ne a _ (by decide)])), (upd_nz (by omega)).trans (e2.trans (by rw [upf_ne a _ (by decide)]))⟩
  · obtain ⟨e0, e1, e2, e3⟩ := d y hy
    exact ⟨(upd_nz (by omega)).trans (e0.trans (by rw [upf_ne a _ (by decide)])), (upd_nz (by omega)).trans (e1.trans (by rw [upf_ne a _ (by decide)])), (upd_nz (by omega)).trans (e2.trans (by rw [upf_ne a _ (by decide)])), (upd_nz (by omega)).trans (e3.trans (by rw [upf_ne a _ (by decide)]))⟩
theorem EQ_2 (hnz : nz ≤ 6) (hns : ns ≤ 20) (hx : x < 6) (h : EQL nz ns f a D) : EQL nz ns f (upf a 2 (upd (a 2) x v)) (upd D (9 + 7 * x + 5) v) := by
  obtain ⟨⟨a1, a2, a3, a4⟩, b, c, d⟩ := h
  refine ⟨⟨(upd_nz (by omega)).trans a1, (upd_nz (by omega)).trans a2, (upd_nz (by omega)).trans a3, a4.imp id (fun e => (upd_nz (by omega)).trans e)⟩, fun y hy => ?_, fun y hy => ?_, fun y hy => ?_⟩
  · obtain ⟨e0, e1, e2⟩ := b y hy
    by_cases hxy : y = x
    · subst hxy
      exact ⟨(upd_nz (by omega)).trans (e0.trans (by rw [upf_ne a _ (by decide)])), upd_eq.trans (by rw [upf_same, upd_eq]), (upd_nz (by omega)).trans (e2.trans (by rw [upf_ne a _ (by decide)]))⟩
    · exact ⟨(upd_nz (by omega)).trans (e0.trans (by rw [upf_ne a _ (by decide)])), (upd_nz (by omega)).trans (e1.trans (by rw [upf_same, upd_nz hxy])), (upd_nz (by omega)).trans (e2.trans (by rw [upf_ne a _ (by decide)]))⟩
  · obtain ⟨e0, e1, e2⟩ := c y hy
    exact ⟨(upd_nz (by omega)).trans (e0.trans (by rw [upf_ne a _ (by decide)])), (upd_nz (by omega)).trans (e1.trans (by rw [upf_ne a _ (by decide)])), (upd_nz (by omega)).trans (e2.trans (by rw [upf_ne a _ (by decide)]))⟩
  · obtain ⟨e0, e1, e2, e3⟩ := d y hy
    exact ⟨(upd_nz (by omega)).trans (e0.trans (by rw [upf_ne a _ (by decide)])), (upd_nz (by omega)).trans (e1.trans (by rw [upf_ne a _ (by decide)])), (upd_nz (by omega)).trans (e2.trans (by rw [upf_ne a _ (by decide)])), (upd_nz (by omega)).trans (e3.trans (by rw [upf_ne a _ (by decide)]))⟩
theorem EQ_3 (hnz : nz ≤ 6) (hns : ns ≤ 20) (hx : x < 6) (hw : w = v + 1) (h : EQL nz ns f a D) : EQL nz ns f (upf a 3 (upd (a 3) x v)) (upd D (9 + 7 * x + 6) w) := by
  obtain ⟨⟨a1, a2, a3, a4⟩, b, c, d⟩ := h
  refine ⟨⟨(upd_nz (by omega)).trans a1, (upd_nz (by omega)).trans a2, (upd_nz (by omega)).trans a3, a4.imp id (fun e => (upd_nz (by omega)).trans e)⟩, fun y hy => ?_, fun y hy => ?_, fun y hy => ?_⟩
  · obtain ⟨e0, e1, e2⟩ := b y hy
    by_cases hxy : y = x
    · subst hxy
      exact ⟨(upd_nz (by omega)).trans (e0.trans (by rw [upf_ne a _ (by decide)])), (upd_nz (by omega)).trans (e1.trans (by rw [upf_ne a _ (by decide)])), upd_eq.trans (hw.trans (by rw [upf_same, upd_eq]))⟩
    · exact ⟨(upd_nz (by omega)).trans (e0.trans (by rw [upf_ne a _ (by decide)])), (upd_nz (by omega)).trans (e1.trans (by rw [upf_ne a _ (by decide)])), (upd_nz (by omega)).trans (e2.trans (by rw [upf_same, upd_nz hxy]))⟩
  · obtain ⟨e0, e1, e2⟩ := c y hy
    exact ⟨(upd_nz (by omega)).trans (e0.trans (by rw [upf_ne a _ (by decide)])), (upd_nz (by omega)).trans (e1.trans (by rw [upf_ne a _ (by decide)])), (upd_nz (by omega)).trans (e2.trans (by rw [upf_ne a _ (by decide)]))⟩
  · obtain ⟨e0, e1, e2, e3⟩ := d y hy
    exact ⟨(upd_nz (by omega)).trans (e0.trans (by rw [upf_ne a _ (by decide)])), (upd_nz (by omega)).trans (e1.trans (by rw [upf_ne a _ (by decide)])), (upd_nz (by omega)).trans (e2.trans (by rw [upf_ne a _ (by decide)])), (upd_nz (by omega)).trans (e3.trans (by rw [upf_ne a _ (by decide)]))⟩
theorem EQ_4 (hnz : nz ≤ 6) (hns : ns ≤ 20) (hx : x < 20) (h : EQL nz ns f a D) : EQL nz ns f (upf a 4 (upd (a 4) x v)) (upd D (51 + 3 * x) v) := by
  obtain ⟨⟨a1, a2, a3, a4⟩, b, c, d⟩ := h
  refine ⟨⟨(upd_nz (by omega)).trans a1, (upd_nz (by omega)).trans a2, (upd_nz (by omega)).trans a3, a4.imp id (fun e => (upd_nz (by omega)).trans e)⟩, fun y hy => ?_, fun y hy => ?_, fun y hy => ?_⟩
  · obtain ⟨e0, e1, e2⟩ := b y hy
    exact ⟨(upd_nz (by omega)).trans (e0.trans (by rw [upf_ne a _ (by decide)])), (upd_nz (by omega)).trans (e1.trans (by rw [upf_ne a _ (by decide)])), (upd_nz (by omega)).trans (e2.trans (by rw [upf_ne a _ (by decide)]))⟩
  · obtain ⟨e0, e1, e2⟩ := c y hy
    by_cases hxy : y = x
    · subst hxy
      exact ⟨upd_eq.trans (by rw [upf_same, upd_eq]), (upd_nz (by omega)).trans (e1.trans (by rw [upf_ne a _ (by decide)])), (upd_nz (by omega)).trans (e2.trans (by rw [upf_ne a _ (by decide)]))⟩
    · exact ⟨(upd_nz (by omega)).trans (e0.trans (by rw [upf_same, upd_nz hxy])), (upd_nz (by omega)).trans (e1.trans (by rw [upf_ne a _ (by decide)])), (upd_nz (by omega)).trans (e2.trans (by rw [upf_ne a _ (by decide)]))⟩
  · obtain ⟨e0, e1, e2, e3⟩ := d y hy
    exact ⟨(upd_nz (by omega)).trans (e0.trans (by rw [upf_ne a _ (by decide)])), (upd_nz (by omega)).trans (e1.trans (by rw [upf_ne a _ (by decide)])), (upd_nz (by omega)).trans (e2.trans (by rw [upf_ne a _ (by decide)])), (upd_nz (by omega)).trans (e3.trans (by rw [upf_ne a _ (by decide)]))⟩
theorem EQ_5 (hnz : nz ≤ 6) (hns : ns ≤ 20) (hx : x < 20) (h : EQL nz ns f a D) : EQL nz ns f (upf a 5 (upd (a 5) x v)) (upd D (51 + 3 * x + 1) v) := by
  obtain ⟨⟨a1, a2, a3, a4⟩, b, c, d⟩ := h
  refine ⟨⟨(upd_nz (by omega)).trans a1, (upd_nz (by omega)).trans a2, (upd_nz (by omega)).trans a3, a4.imp id (fun e => (upd_nz (by omega)).trans e)⟩, fun y hy => ?_, fun y hy => ?_, fun y hy => ?_⟩
  · obtain ⟨e0, e1, e2⟩ := b y hy
    exact ⟨(upd_nz (by omega)).trans (e0.trans (by rw [upf_ne a _ (by decide)])), (upd_nz (by omega)).trans (e1.trans (by rw [upf_ne a _ (by decide)])), (upd_nz (by omega)).trans (e2.trans (by rw [upf_ne a _ (by decide)]))⟩
  · obtain ⟨e0, e1, e2⟩ := c y hy
    by_cases hxy : y = x
    · subst hxy
      exact ⟨(upd_nz (by omega)).trans (e0.trans (by rw [upf_ne a _ (by decide)])), upd_eq.trans (by rw [upf_same, upd_eq]), (upd_nz (by omega)).trans (e2.trans (by rw [upf_ne a _ (by decide)]))⟩
    · exact ⟨(upd_nz (by omega)).trans (e0.trans (by rw [upf_ne a _ (by decide)])), (upd_nz (by omega)).trans (e1.trans (by rw [upf_same, upd_nz hxy])), (upd_nz (by omega)).trans (e2.trans (by rw [upf_ne a _ (by decide)]))⟩
  · obtain ⟨e0, e1, e2, e3⟩ := d y hy
    exact ⟨(upd_nz (by omega)).trans (e0.trans (by rw [upf_ne a _ (by decide)])), (upd_nz (by omega)).trans (e1.trans (by rw [upf_ne a _ (by decide)])), (upd_nz (by omega)).trans (e2.trans (by rw [upf_ne a _ (by decide)])), (upd_nz (by omega)).trans (e3.trans (by rw [upf_ne a _ (by decide)]))⟩
theorem EQ_6 (hnz : nz ≤ 6) (hns : ns ≤ 20) (hx : x < 20) (h : EQL nz ns f a D) : EQL nz ns f (upf a 6 (upd (a 6) x v)) (upd D (51 + 3 * x + 2) v) := by
  obtain ⟨⟨a1, a2, a3, a4⟩, b, c, d⟩ := h
  refine ⟨⟨(upd_nz (by omega)).trans a1, (upd_nz (by omega)).trans a2, (upd_nz (by omega)).trans a3, a4.imp id (fun e => (upd_nz (by omega)).trans e)⟩, fun y hy => ?_, fun y hy => ?_, fun y hy => ?_⟩
  · obtain ⟨e0, e1, e2⟩ := b y hy
    exact ⟨(upd_nz (by omega)).trans (e0.trans (by rw [upf_ne a _ (by decide)])), (upd_nz (by omega)).trans (e1.trans (by rw [upf_ne a _ (by decide)])), (upd_nz (by omega)).trans (e2.trans (by rw [upf_ne a _ (by decide)]))⟩
  · obtain ⟨e0, e1, e2⟩ := c y hy
    by_cases hxy : y = x
    · subst hxy
      exact ⟨(upd_nz (by omega)).trans (e0.trans (by rw [upf_ne a _ (by decide)])), (upd_nz (by omega)).trans (e1.trans (by rw [upf_ne a _ (by decide)])), upd_eq.trans (by rw [upf_same, upd_eq])⟩
    · exact ⟨(upd_nz (by omega)).trans (e0.trans (by rw [upf_ne a _ (by decide)])), (upd_nz (by omega)).trans (e1.trans (by rw [upf_ne a _ (by decide)])), (upd_nz (by omega)).trans (e2.trans (by rw [upf_same, upd_nz hxy]))⟩
  · obtain ⟨e0, e1, e2, e3⟩ := d y hy
    exact ⟨(upd_nz (by omega)).trans (e0.trans (by rw [upf_ne a _ (by decide)])), (upd_nz (by omega)).trans (e1.trans (by rw [upf_ne a _ (by decide)])), (upd_nz (by omega)).trans (e2.trans (by rw [upf_ne a _ (by decide)])), (upd_nz (by omega)).trans (e3.trans (by rw [upf_ne a _ (by decide)]))⟩
theorem EQ_7 (hnz : nz ≤ 6) (hns : ns ≤ 20) (hx : x < 20) (h : EQL nz ns f a D) : EQL nz ns f (upf a 7 (upd (a 7) x v)) (upd D (111 + 7 * x) v) := by
  obtain ⟨⟨a1, a2, a3, a4⟩, b, c, d⟩ := h
  refine ⟨⟨(upd_nz (by omega)).trans a1, (upd_nz (by omega)).trans a2, (upd_nz (by omega)).trans a3, a4.imp id (fun e => (upd_nz (by omega)).trans e)⟩, fun y hy => ?_, fun y hy => ?_, fun y hy => ?_⟩
  · obtain ⟨e0, e1, e2⟩ := b y hy
    exact ⟨(upd_nz (by omega)).trans (e0.trans (by rw [upf_ne a _ (by decide)])), (upd_nz (by omega)).trans (e1.trans (by rw [upf_ne a _ (by decide)])), (upd_nz (by omega)).trans (e2.trans (by rw [upf_ne a _ (by decide)]))⟩
  · obtain ⟨e0, e1, e2⟩ := c y hy
    exact ⟨(upd_nz (by omega)).trans (e0.trans (by rw [upf_ne a _ (by decide)])), (upd_nz (by omega)).trans (e1.trans (by rw [upf_ne a _ (by decide)])), (upd_nz (by omega)).trans (e2.trans (by rw [upf_ne a _ (by decide)]))⟩
  · obtain ⟨e0, e1, e2, e3⟩ := d y hy
    by_cases hxy : y = x
    · subst hxy
      exact ⟨upd_eq.trans (by rw [upf_same, upd_eq]), (upd_nz (by omega)).trans (e1.trans (by rw [upf_ne a _ (by decide)])), (upd_nz (by omega)).trans (e2.trans (by rw [upf_ne a _ (by decide)])), (upd_nz (by omega)).trans (e3.trans (by rw [upf_ne a _ (by decide)]))⟩
    · exact ⟨(upd_nz (by omega)).trans (e0.trans (by rw [upf_same, upd_nz hxy])), (upd_nz (by omega)).trans (e1.trans (by rw [upf_ne a _ (by decide)])), (upd_nz (by omega)).trans (e2.trans (by rw [upf_ne a _ (by decide)])), (upd_nz (by omega)).trans (e3.trans (by rw [upf_ne a _ (by decide)]))⟩
theorem EQ_8 (hnz : nz ≤ 6) (hns : ns ≤ 20) (hx : x < 20) (h : EQL nz ns f a D) : EQL nz ns f (upf a 8 (upd (a 8) x v)) (upd D (111 + 7 * x + 1) v) := by
  obtain ⟨⟨a1, a2, a3, a4⟩, b, c, d⟩ := h
  refine ⟨⟨(upd_nz (by omega)).trans a1, (upd_nz (by omega)).trans a2, (upd_nz (by omega)).trans a3, a4.imp id (fun e => (upd_nz (by omega)).trans e)⟩, fun y hy => ?_, fun y hy => ?_, fun y hy => ?_⟩
  · obtain ⟨e0, e1, e2⟩ := b y hy
    exact ⟨(upd_nz (by omega)).trans (e0.trans (by rw [upf_ne a _ (by decide)])), (upd_nz (by omega)).trans (e1.trans (by rw [upf_ne a _ (by decide)])), (upd_nz (by omega)).trans (e2.trans (by rw [upf_ne a _ (by decide)]))⟩
  · obtain ⟨e0, e1, e2⟩ := c y hy
    exact ⟨(upd_nz (by omega)).trans (e0.trans (by rw [upf_ne a _ (by decide)])), (upd_nz (by omega)).trans (e1.trans (by rw [upf_ne a _ (by decide)])), (upd_nz (by omega)).trans (e2.trans (by rw [upf_ne a _ (by decide)]))⟩
  · obtain ⟨e0, e1, e2, e3⟩ := d y hy
    by_cases hxy : y = x
    · subst hxy
      exact ⟨(upd_nz (by omega)).trans (e0.trans (by rw [upf_ne a _ (by decide)])), upd_eq.trans (by rw [upf_same, upd_eq]), (upd_nz (by omega)).trans (e2.trans (by rw [upf_ne a _ (by decide)])), (upd_nz (by omega)).trans (e3.trans (by rw [upf_ne a _ (by decide)]))⟩
    · exact ⟨(upd_nz (by omega)).trans (e0.trans (by rw [upf_ne a _ (by decide)])), (upd_nz (by omega)).trans (e1.trans (by rw [upf_same, upd_nz hxy])), (upd_nz (by omega)).trans (e2.trans (by rw [upf_ne a _ (by decide)])), (upd_nz (by omega)).trans (e3.trans (by rw [upf_ne a _ (by decide)]))⟩
theorem EQ_9 (hnz : nz ≤ 6) (hns : ns ≤ 20) (hx : x < 20) (h : EQL nz ns f a D) : EQL nz ns f (upf a 9 (upd (a 9) x v)) (upd D (111 + 7 * x + 2) v) := by
  obtain ⟨⟨a1, a2, a3, a4⟩, b, c, d⟩ := h
  refine ⟨⟨(upd_nz (by omega)).trans a1, (upd_nz (by omega)).trans a2, (upd_nz (by omega)).trans a3, a4.imp id (fun e => (upd_nz (by omega)).trans e)⟩, fun y hy => ?_, fun y hy => ?_, fun y hy => ?_⟩
  · obtain ⟨e0, e1, e2⟩ := b y hy
    exact ⟨(upd_nz (by omega)).trans (e0.trans (by rw [upf_ne a _ (by decide)])), (upd_nz (by omega)).trans (e1.trans (by rw [upf_ne a _ (by decide)])), (upd_nz (by omega)).trans (e2.trans (by rw [upf_ne a _ (by decide)]))⟩
  · obtain ⟨e0, e1, e2⟩ := c y hy
    exact ⟨(upd_nz (by omega)).trans (e0.trans (by rw [upf_ne a _ (by decide)])), (upd_nz (by omega)).trans (e1.trans (by rw [upf_ne a _ (by decide)])), (upd_nz (by omega)).trans (e2.trans (by rw [upf_ne a _ (by decide)]))⟩
  · obtain ⟨e0, e1, e2, e3⟩ := d y hy
    by_cases hxy : y = x
    · subst hxy
      exact ⟨(upd_nz (by omega)).trans (e0.trans (by rw [upf_ne a _ (by decide)])), (upd_nz (by omega)).trans (e1.trans (by rw [upf_ne a _ (by decide)])), upd_eq.trans (by rw [upf_same, upd_eq]), (upd_nz (by omega)).trans (e3.trans (by rw [upf_ne a _ (by decide)]))⟩
    · exact ⟨(upd_nz (by omega)).trans (e0.trans (by rw [upf_ne a _ (by decide)])), (upd_nz (by omega)).trans (e1.trans (by rw [upf_ne a _ (by decide)])), (upd_nz (by omega)).trans (e2.trans (by rw [upf_same, upd_nz hxy])), (upd_nz (by omega)).trans (e3.trans (by rw [upf_ne a _ (by decide)]))⟩
theorem EQ_10 (hnz : nz ≤ 6) (hns : ns ≤ 20) (hx : x < 20) (h : EQL nz ns f a D) : EQL nz ns f (upf a 10 (upd (a 10) x v)) (upd D (111 + 7 * x + 3) v) := by
  obtain ⟨⟨a1, a2, a3, a4⟩, b, c, d⟩ := h
  refine ⟨⟨(upd_nz (by omega)).trans a1, (upd_nz (by omega)).trans a2, (upd_nz (by omega)).trans a3, a4.imp id (fun e => (upd_nz (by omega)).trans e)⟩, fun y hy => ?_, fun y hy => ?_, fun y hy => ?_⟩
  · obtain ⟨e0, e1, e2⟩ := b y hy
    exact ⟨(upd_nz (by omega)).trans (e0.trans (by rw [upf_ne a _ (by decide)])), (upd_nz (by omega)).trans (e1.trans (by rw [upf_ne a _ (by decide)])), (upd_nz (by omega)).trans (e2.trans (by rw [upf_ne a _ (by decide)]))⟩
  · obtain ⟨e0, e1, e2⟩ := c y hy
    exact ⟨(upd_nz (by omega)).trans (e0.trans (by rw [upf_ne a _ (by decide)])), (upd_nz (by omega)).trans (e1.trans (by rw [upf_ne a _ (by decide)])), (upd_nz (by omega)).trans (e2.trans (by rw [upf_ne a _ (by decide)]))⟩
  · obtain ⟨e0, e1, e2, e3⟩ := d y hy
    by_cases hxy : y = x
    · subst hxy
      exact ⟨(upd_nz (by omega)).trans (e0.trans (by rw [upf_ne a _ (by decide)])), (upd_nz (by omega)).trans (e1.trans (by rw [upf_ne a _ (by decide)])), (upd_nz (by omega)).trans (e2.trans (by rw [upf_ne a _ (by decide)])), upd_eq.trans (by rw [upf_same, upd_eq])⟩
    · exact ⟨(upd_nz (by omega)).trans (e0.trans (by rw [upf_ne a _ (by decide)])), (upd_nz (by omega)).trans (e1.trans (by rw [upf_ne a _ (by decide)])), (upd_nz (by omega)).trans (e2.trans (by rw [upf_ne a _ (by decide)])), (upd_nz (by omega)).trans (e3.trans (by rw [upf_same, upd_nz hxy]))⟩
theorem EQ_5w (hnz : nz ≤ 6) (hns : ns ≤ 20) (hw : w = v + 1) (h6 : v = -1 ∨ D 6 = f 4) (h : EQL nz ns f a D) : EQL nz ns (upf f 3 v) a (upd D 5 w) := by
  obtain ⟨⟨a1, a2, a3, a4⟩, b, c, d⟩ := h
  exact ⟨⟨(upd_nz (by omega)).trans a1, (upd_nz (by omega)).trans a2, upd_eq.trans hw, h6.imp id (fun e => (upd_nz (by omega)).trans e)⟩, fun y hy => ⟨(upd_nz (by omega)).trans (b y hy).1, (upd_nz (by omega)).trans (b y hy).2.1, (upd_nz (by omega)).trans (b y hy).2.2⟩, fun y hy => ⟨(upd_nz (by omega)).trans (c y hy).1, (upd_nz (by omega)).trans (c y hy).2.1, (upd_nz (by omega)).trans (c y hy).2.2⟩, fun y hy => ⟨(upd_nz (by omega)).trans (d y hy).1, (upd_nz (by omega)).trans (d y hy).2.1, (upd_nz (by omega)).trans (d y hy).2.2.1, (upd_nz (by omega)).trans (d y hy).2.2.2⟩⟩
theorem EQ_6w (hnz : nz ≤ 6) (hns : ns ≤ 20) (h : EQL nz ns f a D) : EQL nz ns (upf f 4 v) a (upd D 6 v) := by
  obtain ⟨⟨a1, a2, a3, a4⟩, b, c, d⟩ := h
  exact ⟨⟨(upd_nz (by omega)).trans a1, (upd_nz (by omega)).trans a2, (upd_nz (by omega)).trans a3, Or.inr upd_eq⟩, fun y hy => ⟨(upd_nz (by omega)).trans (b y hy).1, (upd_nz (by omega)).trans (b y hy).2.1, (upd_nz (by omega)).trans (b y hy).2.2⟩, fun y hy => ⟨(upd_nz (by omega)).trans (c y hy).1, (upd_nz (by omega)).trans (c y hy).2.1, (upd_nz (by omega)).trans (c y hy).2.2⟩, fun y hy => ⟨(upd_nz (by omega)).trans (d y hy).1, (upd_nz (by omega)).trans (d y hy).2.1, (upd_nz (by omega)).trans (d y hy).2.2.1, (upd_nz (by omega)).trans (d y hy).2.2.2⟩⟩
theorem EQ_2w (hnz : nz ≤ 6) (hns : ns ≤ 20) (h : EQL nz ns f a D) : EQL nz ns (upf f 1 v) a (upd D 2 v) := by
  obtain ⟨⟨a1, a2, a3, a4⟩, b, c, d⟩ := h
  exact ⟨⟨(upd_nz (by omega)).trans a1, upd_eq, (upd_nz (by omega)).trans a3, a4.imp id (fun e => (upd_nz (by omega)).trans e)⟩, fun y hy => ⟨(upd_nz (by omega)).trans (b y hy).1, (upd_nz (by omega)).trans (b y hy).2.1, (upd_nz (by omega)).trans (b y hy).2.2⟩, fun y hy => ⟨(upd_nz (by omega)).trans (c y hy).1, (upd_nz (by omega)).trans (c y hy).2.1, (upd_nz (by omega)).trans (c y hy).2.2⟩, fun y hy => ⟨(upd_nz (by omega)).trans (d y hy).1, (upd_nz (by omega)).trans (d y hy).2.1, (upd_nz (by omega)).trans (d y hy).2.2.1, (upd_nz (by omega)).trans (d y hy).2.2.2⟩⟩
end EQU
/-! the reference's data row in the heap -/
def dH (c : HP) (J : Nat → Nat → Int64) (D : Nat → Int32) : AH := MH c.1 c.2.1 c.2.2.1 c.2.2.2.1 (upf c.2.2.2.2.1 142 D) J c.2.2.2.2.2.2
section DH
variable {c : HP} {J : Nat → Nat → Int64} {D f : Nat → Int32} {d z s k a : Nat} {v : Int32} {K : AO → AH → Prop}
theorem d_k : hk (dH c J D) 140 = 7 := k_140
theorem d_f8 : hF (dH c J D) 140 8 = .ref 142 := f_140_8
theorem d_k2 : hk (dH c J D) 142 = 10 := k_142
theorem d_l2 : hl (dH c J D) 142 = 1451 := l_142
theorem d_a2 : hA (dH c J D) 142 = D := a_142.trans (upf_same _ _ _)
theorem d_wa2 : wA (dH c J D) 142 f = dH c J f := wa_142.trans (by rw [upf_upf]; rfl)
theorem nI_p2 : nI a + 2 = nI (a + 2) := nI_add a 2
theorem nI_p3 : nI a + 3 = nI (a + 3) := nI_add a 3
theorem nI_p4 : nI a + 4 = nI (a + 4) := nI_add a 4
theorem nI_p5 : nI a + 5 = nI (a + 5) := nI_add a 5
theorem nI_p6 : nI a + 6 = nI (a + 6) := nI_add a 6
theorem ib_0 : inb 0 1451 = True := eq_true (by decide)
theorem iz_0 : Int32.toNatClampNeg 0 = 0 := by decide
theorem ze_0 {x : Nat} : (9 + 7 * x + 0 = 0) = False := eq_false (by omega)
theorem ib_1 : inb 1 1451 = True := eq_true (by decide)
theorem iz_1 : Int32.toNatClampNeg 1 = 1 := by decide
theorem ze_1 {x : Nat} : (9 + 7 * x + 1 = 0) = False := eq_false (by omega)
theorem ib_2 : inb 2 1451 = True := eq_true (by decide)
theorem iz_2 : Int32.toNatClampNeg 2 = 2 := by decide
theorem ze_2 {x : Nat} : (9 + 7 * x + 2 = 0) = False := eq_false (by omega)
theorem ib_3 : inb 3 1451 = True := eq_true (by decide)
theorem iz_3 : Int32.toNatClampNeg 3 = 3 := by decide
theorem ze_3 {x : Nat} : (9 + 7 * x + 3 = 0) = False := eq_false (by omega)
theorem ib_4 : inb 4 1451 = True := eq_true (by decide)
theorem iz_4 : Int32.toNatClampNeg 4 = 4 := by decide
theorem ze_4 {x : Nat} : (9 + 7 * x + 4 = 0) = False := eq_false (by omega)
theorem ib_5 : inb 5 1451 = True := eq_true (by decide)
theorem iz_5 : Int32.toNatClampNeg 5 = 5 := by decide
theorem ze_5 {x : Nat} : (9 + 7 * x + 5 = 0) = False := eq_false (by omega)
theorem ib_6 : inb 6 1451 = True := eq_true (by decide)
theorem iz_6 : Int32.toNatClampNeg 6 = 6 := by decide
theorem ze_6 {x : Nat} : (9 + 7 * x + 6 = 0) = False := eq_false (by omega)
theorem ib_7 : inb 7 1451 = True := eq_true (by decide)
theorem iz_7 : Int32.toNatClampNeg 7 = 7 := by decide
theorem ze_7 {x : Nat} : (9 + 7 * x + 7 = 0) = False := eq_false (by omega)
theorem ib_8 : inb 8 1451 = True := eq_true (by decide)
theorem iz_8 : Int32.toNatClampNeg 8 = 8 := by decide
theorem ze_8 {x : Nat} : (9 + 7 * x + 8 = 0) = False := eq_false (by omega)
theorem s_held (hz : z < 6) : EvM (d + 1) 116 [.ref 140, .int (nI z)] (dH c J D) K = K (.inl (some (.int (D (9 + 7 * z + 6) - 1)))) (dH c J D) := by
  simp only [in116, i116_0, i116_1, i116_4, i116_5, i116_8, i116_10, i116_11, i116_12, i116_13, i116_14, nl_i, nl_r, nl_0, nl_j, nb0, nb1, nbI, orv_s, konN_v, konN_n, konN_e, true_and, and_true, and_self, if_true, if_false, ite_true, ite_false, isR_ref, true_or, or_true, bI_T, bI_F, bI_Fb, i1z, Bool.false_eq_true, d_k, d_f8, d_k2, d_l2, d_a2, d_wa2, s_zoneAt, s_sheetAt, s_kindAt, nI_1, nI_p2, nI_p3, nI_p4, nI_p5, nI_p6, ib_0, ib_1, ib_2, ib_3, ib_4, ib_5, ib_6, ib_7, ib_8, iz_0, iz_1, iz_2, iz_3, iz_4, iz_5, iz_6, iz_7, iz_8, ze_0, ze_1, ze_2, ze_3, ze_4, ze_5, ze_6, ze_7, ze_8, inbT (show 9 + 7 * z + 6 < 1451 by omega) (show 1451 < 2 ^ 31 by omega), zn_nI (show 9 + 7 * z + 6 < 2 ^ 31 by omega)]
theorem s_hold (hz : z < 6) : EvM (d + 1) 117 [.ref 140, .int (nI z), .int v] (dH c J D) K = K (.inl none) (dH c J (upd D (9 + 7 * z + 6) (v + 1))) := by
  simp only [in117, i117_0, i117_1, i117_4, i117_5, i117_8, i117_10, i117_11, i117_12, i117_13, i117_14, i117_15, nl_i, nl_r, nl_0, nl_j, nb0, nb1, nbI, orv_s, konN_v, konN_n, konN_e, true_and, and_true, and_self, if_true, if_false, ite_true, ite_false, isR_ref, true_or, or_true, bI_T, bI_F, bI_Fb, i1z, Bool.false_eq_true, d_k, d_f8, d_k2, d_l2, d_a2, d_wa2, s_zoneAt, s_sheetAt, s_kindAt, nI_1, nI_p2, nI_p3, nI_p4, nI_p5, nI_p6, ib_0, ib_1, ib_2, ib_3, ib_4, ib_5, ib_6, ib_7, ib_8, iz_0, iz_1, iz_2, iz_3, iz_4, iz_5, iz_6, iz_7, iz_8, ze_0, ze_1, ze_2, ze_3, ze_4, ze_5, ze_6, ze_7, ze_8, inbT (show 9 + 7 * z + 6 < 1451 by omega) (show 1451 < 2 ^ 31 by omega), zn_nI (show 9 + 7 * z + 6 < 2 ^ 31 by omega)]
theorem s_warmth (hs : s < 20) : EvM (d + 1) 118 [.ref 140, .int (nI s)] (dH c J D) K = K (.inl (some (.int (D (51 + 3 * s + 1))))) (dH c J D) := by
  simp only [in118, i118_0, i118_1, i118_4, i118_5, i118_8, i118_9, i118_10, i118_11, nl_i, nl_r, nl_0, nl_j, nb0, nb1, nbI, orv_s, konN_v, konN_n, konN_e, true_and, and_true, and_self, if_true, if_false, ite_true, ite_false, isR_ref, true_or, or_true, bI_T, bI_F, bI_Fb, i1z, Bool.false_eq_true, d_k, d_f8, d_k2, d_l2, d_a2, d_wa2, s_zoneAt, s_sheetAt, s_kindAt, nI_1, nI_p2, nI_p3, nI_p4, nI_p5, nI_p6, ib_0, ib_1, ib_2, ib_3, ib_4, ib_5, ib_6, ib_7, ib_8, iz_0, iz_1, iz_2, iz_3, iz_4, iz_5, iz_6, iz_7, iz_8, ze_0, ze_1, ze_2, ze_3, ze_4, ze_5, ze_6, ze_7, ze_8, inbT (show 51 + 3 * s + 1 < 1451 by omega) (show 1451 < 2 ^ 31 by omega), zn_nI (show 51 + 3 * s + 1 < 2 ^ 31 by omega)]
theorem s_stateOf (hs : s < 20) : EvM (d + 1) 119 [.ref 140, .int (nI s)] (dH c J D) K = K (.inl (some (.int (D (51 + 3 * s + 2))))) (dH c J D) := by
  simp only [in119, i119_0, i119_1, i119_4, i119_5, i119_8, i119_9, i119_10, i119_11, nl_i, nl_r, nl_0, nl_j, nb0, nb1, nbI, orv_s, konN_v, konN_n, konN_e, true_and, and_true, and_self, if_true, if_false, ite_true, ite_false, isR_ref, true_or, or_true, bI_T, bI_F, bI_Fb, i1z, Bool.false_eq_true, d_k, d_f8, d_k2, d_l2, d_a2, d_wa2, s_zoneAt, s_sheetAt, s_kindAt, nI_1, nI_p2, nI_p3, nI_p4, nI_p5, nI_p6, ib_0, ib_1, ib_2, ib_3, ib_4, ib_5, ib_6, ib_7, ib_8, iz_0, iz_1, iz_2, iz_3, iz_4, iz_5, iz_6, iz_7, iz_8, ze_0, ze_1, ze_2, ze_3, ze_4, ze_5, ze_6, ze_7, ze_8, inbT (show 51 + 3 * s + 2 < 1451 by omega) (show 1451 < 2 ^ 31 by omega), zn_nI (show 51 + 3 * s + 2 < 2 ^ 31 by omega)]
theorem s_become (hs : s < 20) : EvM (d + 1) 120 [.ref 140, .int (nI s), .int v] (dH c J D) K = K (.inl none) (dH c J (upd D (51 + 3 * s + 2) v)) := by
  simp only [in120, i120_0, i120_1, i120_4, i120_5, i120_8, i120_9, i120_10, i120_11, i120_12, nl_i, nl_r, nl_0, nl_j, nb0, nb1, nbI, orv_s, konN_v, konN_n, konN_e, true_and, and_true, and_self, if_true, if_false, ite_true, ite_false, isR_ref, true_or, or_true, bI_T, bI_F, bI_Fb, i1z, Bool.false_eq_true, d_k, d_f8, d_k2, d_l2, d_a2, d_wa2, s_zoneAt, s_sheetAt, s_kindAt, nI_1, nI_p2, nI_p3, nI_p4, nI_p5, nI_p6, ib_0, ib_1, ib_2, ib_3, ib_4, ib_5, ib_6, ib_7, ib_8, iz_0, iz_1, iz_2, iz_3, iz_4, iz_5, iz_6, iz_7, iz_8, ze_0, ze_1, ze_2, ze_3, ze_4, ze_5, ze_6, ze_7, ze_8, inbT (show 51 + 3 * s + 2 < 1451 by omega) (show 1451 < 2 ^ 31 by omega), zn_nI (show 51 + 3 * s + 2 < 2 ^ 31 by omega)]
theorem s_mThick (hs : s < 20) : EvM (d + 1) 121 [.ref 140, .int (nI s)] (dH c J D) K = K (.inl (some (.int (D (51 + 3 * s))))) (dH c J D) := by
  simp only [in121, i121_0, i121_1, i121_4, i121_5, i121_8, i121_9, nl_i, nl_r, nl_0, nl_j, nb0, nb1, nbI, orv_s, konN_v, konN_n, konN_e, true_and, and_true, and_self, if_true, if_false, ite_true, ite_false, isR_ref, true_or, or_true, bI_T, bI_F, bI_Fb, i1z, Bool.false_eq_true, d_k, d_f8, d_k2, d_l2, d_a2, d_wa2, s_zoneAt, s_sheetAt, s_kindAt, nI_1, nI_p2, nI_p3, nI_p4, nI_p5, nI_p6, ib_0, ib_1, ib_2, ib_3, ib_4, ib_5, ib_6, ib_7, ib_8, iz_0, iz_1, iz_2, iz_3, iz_4, iz_5, iz_6, iz_7, iz_8, ze_0, ze_1, ze_2, ze_3, ze_4, ze_5, ze_6, ze_7, ze_8, inbT (show 51 + 3 * s < 1451 by omega) (show 1451 < 2 ^ 31 by omega), zn_nI (show 51 + 3 * s < 2 ^ 31 by omega)]
end DH
/-! INT ARITHMETIC -/
theorem i32_mul {x y : Int32} (h1 : -2147483648 ≤ x.toInt * y.toInt) (h2 : x.toInt * y.toInt < 2147483648) : (x * y).toInt = x.toInt * y.toInt := by
  rw [Int32.toInt_mul]
  exact Int.bmod_eq_of_le (by omega) (by omega)
theorem i32_add {x y : Int32} (h1 : -2147483648 ≤ x.toInt + y.toInt) (h2 : x.toInt + y.toInt < 2147483648) : (x + y).toInt = x.toInt + y.toInt := by
  rw [Int32.toInt_add]
  exact Int.bmod_eq_of_le (by omega) (by omega)
theorem i32_sub {x y : Int32} (h1 : -2147483648 ≤ x.toInt - y.toInt) (h2 : x.toInt - y.toInt < 2147483648) : (x - y).toInt = x.toInt - y.toInt := by
  rw [Int32.toInt_sub]
  exact Int.bmod_eq_of_le (by omega) (by omega)
theorem i32_div {x y : Int32} (hx : 0 ≤ x.toInt) (hy : 1 ≤ y.toInt) : (x / y).toInt = x.toInt / y.toInt ∧ 0 ≤ x.toInt / y.toInt ∧ x.toInt / y.toInt ≤ x.toInt := by
  have h1 : 0 ≤ x.toInt / y.toInt := Int.ediv_nonneg hx (by omega)
  have h2 : x.toInt / y.toInt ≤ x.toInt := Int.ediv_le_self _ hx
  have := x.toInt_lt
  refine ⟨?_, h1, h2⟩
  rw [Int32.toInt_div, Int.tdiv_eq_ediv_of_nonneg hx]
  exact Int.bmod_eq_of_le (by omega) (by omega)
theorem i32_bd {lo hi : Int32} {x : Int32} (h : lo ≤ x ∧ x ≤ hi) : lo.toInt ≤ x.toInt ∧ x.toInt ≤ hi.toInt := by
  rw [i32_le, i32_le] at h
  exact h
