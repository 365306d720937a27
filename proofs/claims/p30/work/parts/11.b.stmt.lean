/-! READING: header, zone, band, heat of the law's text -/
/-- the numbers behind a word -/
def nmsT : List Nat → List Nat
  | [] => []
  | v :: vs => 32 :: (dgs v ++ nmsT vs)
section STM
variable {c : HP} {g st : Nat → Int32} {n p i dp m b k s t z d v v1 v2 v3 v4 v5 x : Nat} {q : Nat → Int32} {a : Nat → Nat → Int32} {ec hs nu lo hi : Int32} {sc : Nat} {X Y : List Nat} {L M : List Int32} {K : AO → AH → Prop} {l l' rest : List Nat}
theorem rng {lo hi : Nat} (h : lo ≤ v ∧ v ≤ hi) (hv : hi < 2 ^ 31) : nI lo ≤ nI v ∧ nI v ≤ nI hi := ⟨by rw [nI_leI (by omega) (by omega)]; exact h.1, by rw [nI_leI (by omega) (by omega)]; exact h.2⟩
theorem num_step (hg : cB c = g) (hn : n ≤ 700) (hv : v < 1000) (hr : lo ≤ nI v ∧ nI v ≤ hi) (hx : ¬ (48 ≤ x ∧ x ≤ 57)) (hA : At g n p (dgs v ++ x :: l)) : EvM (d + 2) 44 [.ref 13, .int lo, .int hi] (cH c (rd g n p nu ec hs sc) st) K = K (.inl (some (.int 1))) (cH c (rd g n (nxT g n p) (nI v) ec hs sc) st) := by
  obtain ⟨k1, k2, k3⟩ := tok_num hv hA hx
  exact c_takeNumber hg hn hA.le k1 k2 hr
theorem num_at (hv : v < 1000) (hx : ¬ (48 ≤ x ∧ x ≤ 57)) (hA : At g n p (dgs v ++ x :: l)) : At g n (nxT g n p) (sk (x :: l)) := (tok_num hv hA hx).2.2
theorem c_header (hg : cB c = g) (hn : n ≤ 700) (hs' : SBc c.1 c.2.1 s) (hG : c.2.2.2.2.2.2 13 = s) (h1 : 1 ≤ v1 ∧ v1 ≤ 9) (h2 : v2 ≤ 20) (hA : At g n p (wrd 0 ++ (nmsT [v1, v2] ++ 59 :: rest))) : ∃ p', At g n p' (sk rest) ∧ ∀ d K, EvM (d + 5) 35 [.ref 13] (cH (zC c s q a t) (rd g n p nu ec hs sc) st) K = K (.inl (some (.int 1))) (cH (zC c s (upf (upf q 1 (nI v1)) 2 (nI v2)) a t) (rd g n p' (nI v2) ec hs sc) st) := by
  have hA : At g n p (wrd 0 ++ 32 :: (dgs v1 ++ 32 :: (dgs v2 ++ 59 :: rest))) := by
    have e : nmsT [v1, v2] ++ 59 :: rest = 32 :: (dgs v1 ++ 32 :: (dgs v2 ++ 59 :: rest)) := by simp [nmsT]
    rw [← e]; exact hA
  obtain ⟨-, w1, a1⟩ := tok_word (k := 0) (by decide) hA (by decide)
  rw [sk_sp, sk_num (by omega)] at a1
  have a2 := num_at (v := v1) (by omega) (by decide) a1
  rw [sk_sp, sk_num (by omega)] at a2
  have a3 := num_at (v := v2) (by omega) (by decide) a2
  rw [sk_id (by decide)] at a3
  obtain ⟨-, t1, a4⟩ := tok_sign a3 (by decide) (by decide)
  have s59 : sgB g n (nxT g n (nxT g n (nxT g n p))) 59 = true := (t1 59 (by decide)).trans (decide_eq_true rfl)
  have hgz : ∀ q a t, cB (zC c s q a t) = g := fun _ _ _ => hg
  refine ⟨_, a4, fun d K => ?_⟩
  have wi := fun q a t K => c_wordIs (c := zC c s q a t) (d := d) (k := 0) (K := K) (nu := nu) (ec := ec) (hs := hs) (sc := sc) (st := st) (by decide) (hgz q a t) hn hA.le
  have tk := fun q a t K => c_tok (c := zC c s q a t) (d := d + 3) (K := K) (nu := nu) (ec := ec) (hs := hs) (sc := sc) (st := st) (hgz q a t) hn hA.le
  have n1 := fun q a t nu K => num_step (c := zC c s q a t) (d := d + 2) (lo := 1) (hi := 9) (K := K) (nu := nu) (ec := ec) (hs := hs) (sc := sc) (st := st) (hgz q a t) hn (show v1 < 1000 by omega) (rng h1 (by decide)) (by decide) a1
  have n2 := fun q a t nu K => num_step (c := zC c s q a t) (d := d + 2) (lo := 0) (hi := 20) (K := K) (nu := nu) (ec := ec) (hs := hs) (sc := sc) (st := st) (hgz q a t) hn (show v2 < 1000 by omega) (rng (lo := 0) ⟨Nat.zero_le _, h2⟩ (by decide)) (by decide) a2
  have ts := fun q a t nu K => c_takeSign (c := zC c s q a t) (d := d + 2) (K := K) (nu := nu) (ec := ec) (hs := hs) (sc := sc) (st := st) (hgz q a t) hn a3.le s59
  simp only [in35, i35_0, i35_1, i35_3, i35_6, i35_9, i35_10, i35_12, i35_15, i35_16, i35_17, i35_20, i35_21, i35_22, i35_24, i35_27, i35_30, i35_31, i35_32, i35_33, i35_36, i35_37, i35_40, i35_43, i35_44, i35_45, i35_47, i35_50, i35_53, i35_54, i35_55, i35_56, i35_59, i35_60, i35_63, i35_66, i35_67, i35_69, i35_72, nl_i, nl_r, nl_0, nl_j, nb0, nb1, nbI, orv_s, konN_v, konN_n, konN_e, true_and, and_true, and_self, if_true, if_false, ite_true, ite_false, isR_ref, true_or, or_true, isR_null, rg10, rg11, rg12, rg13, rg14, rg15, rg16, rh13, rh14, rh15, rh16, bI_T, bI_F, bI_Fb, i1z, Bool.false_eq_true, c_k, c_f6, rd_6, z_g hG, z_k hs', z_w10 hs', z_0 hs', z_1 hs', z_2 hs', z_w0 hs', z_w1 hs', z_w2 hs', z_f3 hs', z_f4 hs', z_f5 hs', z_f6 hs', z_f7 hs', z_f8 hs', z_f9 hs', z_k1 hs', z_k2 hs', z_k3 hs', z_k4 hs', z_k5 hs', z_k6 hs', z_k7 hs', z_l1 hs', z_l2 hs', z_l3 hs', z_l4 hs', z_l5 hs', z_l6 hs', z_l7 hs', z_a1 hs', z_a2 hs', z_a3 hs', z_a4 hs', z_a5 hs', z_a6 hs', z_a7 hs', z_wa1 hs', z_wa2 hs', z_wa3 hs', z_wa4 hs', z_wa5 hs', z_wa6 hs', z_wa7 hs', wi, w1, tk, n1, n2, ts]
theorem c_zone (hg : cB c = g) (hn : n ≤ 700) (hs' : SBc c.1 c.2.1 s) (hG : c.2.2.2.2.2.2 13 = s) (hz : z < 6) (hq : q 0 = nI z) (h1 : 100 ≤ v1 ∧ v1 ≤ 900) (h2 : 1 ≤ v2 ∧ v2 ≤ 99) (h3 : 1 ≤ v3 ∧ v3 ≤ 999) (h4 : 20 ≤ v4 ∧ v4 ≤ 900) (h5 : v4 ≤ v5 ∧ v5 ≤ 900) (hA : At g n p (wrd 1 ++ (nmsT [v1, v2, v3, v4, v5] ++ 59 :: rest))) : ∃ p', At g n p' (59 :: rest) ∧ ∀ d K, EvM (d + 3) 37 [.ref 13] (cH (zC c s q a t) (rd g n p nu ec hs sc) st) K = K (.inl (some (.int 1))) (cH (zC c s (upf q 0 (nI (z + 1))) (zW a z (nI v1) (nI v2) (nI v3) (nI v4) (nI v5)) t) (rd g n p' (nI v5) ec hs sc) st) := by
  have hA : At g n p (wrd 1 ++ 32 :: (dgs v1 ++ 32 :: (dgs v2 ++ 32 :: (dgs v3 ++ 32 :: (dgs v4 ++ 32 :: (dgs v5 ++ 59 :: rest)))))) := by
    have e : nmsT [v1, v2, v3, v4, v5] ++ 59 :: rest = 32 :: (dgs v1 ++ 32 :: (dgs v2 ++ 32 :: (dgs v3 ++ 32 :: (dgs v4 ++ 32 :: (dgs v5 ++ 59 :: rest))))) := by simp [nmsT]
    rw [← e]; exact hA
  obtain ⟨-, w1, a1⟩ := tok_word (k := 1) (by decide) hA (by decide)
  rw [sk_sp, sk_num (by omega)] at a1
  have a2 := num_at (v := v1) (by omega) (by decide) a1
  rw [sk_sp, sk_num (by omega)] at a2
  have a3 := num_at (v := v2) (by omega) (by decide) a2
  rw [sk_sp, sk_num (by omega)] at a3
  have a4 := num_at (v := v3) (by omega) (by decide) a3
  rw [sk_sp, sk_num (by omega)] at a4
  have a5 := num_at (v := v4) (by omega) (by decide) a4
  rw [sk_sp, sk_num (by omega)] at a5
  have a6 := num_at (v := v5) (by omega) (by decide) a5
  rw [sk_id (by decide)] at a6
  have hgz : ∀ q a t, cB (zC c s q a t) = g := fun _ _ _ => hg
  refine ⟨_, a6, fun d K => ?_⟩
  have tk := fun q a t K => c_tok (c := zC c s q a t) (d := d + 1) (K := K) (nu := nu) (ec := ec) (hs := hs) (sc := sc) (st := st) (hgz q a t) hn hA.le
  have n1 := fun q a t nu K => num_step (c := zC c s q a t) (d := d) (lo := 100) (hi := 900) (K := K) (nu := nu) (ec := ec) (hs := hs) (sc := sc) (st := st) (hgz q a t) hn (show v1 < 1000 by omega) (rng h1 (by decide)) (by decide) a1
  have n2 := fun q a t nu K => num_step (c := zC c s q a t) (d := d) (lo := 1) (hi := 99) (K := K) (nu := nu) (ec := ec) (hs := hs) (sc := sc) (st := st) (hgz q a t) hn (show v2 < 1000 by omega) (rng h2 (by decide)) (by decide) a2
  have n3 := fun q a t nu K => num_step (c := zC c s q a t) (d := d) (lo := 1) (hi := 999) (K := K) (nu := nu) (ec := ec) (hs := hs) (sc := sc) (st := st) (hgz q a t) hn (show v3 < 1000 by omega) (rng h3 (by decide)) (by decide) a3
  have n4 := fun q a t nu K => num_step (c := zC c s q a t) (d := d) (lo := 20) (hi := 900) (K := K) (nu := nu) (ec := ec) (hs := hs) (sc := sc) (st := st) (hgz q a t) hn (show v4 < 1000 by omega) (rng h4 (by decide)) (by decide) a4
  have n5 := fun q a t nu K => num_step (c := zC c s q a t) (d := d) (lo := nI v4) (hi := 900) (K := K) (nu := nu) (ec := ec) (hs := hs) (sc := sc) (st := st) (hgz q a t) hn (show v5 < 1000 by omega) (rng h5 (by decide)) (by decide) a5
  have t6 : ((6 : Int32) ≤ nI z) = False := eq_false (by rw [show (6 : Int32) = nI 6 from rfl, nI_leI (by omega) (by omega)]; omega)
  have t6' : (nI z < 6) = True := eq_true (by rw [show (6 : Int32) = nI 6 from rfl, nI_lI (by omega) (by omega)]; omega)
  simp only [in37, i37_0, i37_1, i37_4, i37_7, i37_8, i37_9, i37_11, i37_14, i37_15, i37_17, i37_20, i37_21, i37_22, i37_25, i37_26, i37_28, i37_31, i37_34, i37_37, i37_38, i37_39, i37_40, i37_43, i37_46, i37_47, i37_48, i37_51, i37_52, i37_53, i37_54, i37_56, i37_59, i37_62, i37_63, i37_64, i37_65, i37_68, i37_71, i37_72, i37_73, i37_76, i37_77, i37_78, i37_79, i37_82, i37_85, i37_88, i37_89, i37_90, i37_91, i37_94, i37_97, i37_98, i37_99, i37_102, i37_103, i37_104, i37_106, i37_109, i37_112, i37_115, i37_116, i37_117, i37_118, i37_121, i37_124, i37_125, i37_126, i37_129, i37_130, i37_131, i37_132, i37_135, i37_138, i37_139, i37_140, i37_143, i37_146, i37_149, i37_150, i37_151, i37_152, i37_155, i37_158, i37_159, i37_160, i37_163, i37_164, i37_165, i37_168, i37_169, i37_172, i37_173, i37_174, i37_177, i37_178, nl_i, nl_r, nl_0, nl_j, nb0, nb1, nbI, orv_s, konN_v, konN_n, konN_e, true_and, and_true, and_self, if_true, if_false, ite_true, ite_false, isR_ref, true_or, or_true, isR_null, rg10, rg11, rg12, rg13, rg14, rg15, rg16, rh13, rh14, rh15, rh16, bI_T, bI_F, bI_Fb, i1z, Bool.false_eq_true, c_k, c_f6, rd_6, z_g hG, z_k hs', z_w10 hs', z_0 hs', z_1 hs', z_2 hs', z_w0 hs', z_w1 hs', z_w2 hs', z_f3 hs', z_f4 hs', z_f5 hs', z_f6 hs', z_f7 hs', z_f8 hs', z_f9 hs', z_k1 hs', z_k2 hs', z_k3 hs', z_k4 hs', z_k5 hs', z_k6 hs', z_k7 hs', z_l1 hs', z_l2 hs', z_l3 hs', z_l4 hs', z_l5 hs', z_l6 hs', z_l7 hs', z_a1 hs', z_a2 hs', z_a3 hs', z_a4 hs', z_a5 hs', z_a6 hs', z_a7 hs', z_wa1 hs', z_wa2 hs', z_wa3 hs', z_wa4 hs', z_wa5 hs', z_wa6 hs', z_wa7 hs', upf_ne _ _ (show ¬ (1 : Nat) = 2 by decide), upf_ne _ _ (show ¬ (1 : Nat) = 3 by decide), upf_ne _ _ (show ¬ (1 : Nat) = 4 by decide), upf_ne _ _ (show ¬ (1 : Nat) = 5 by decide), upf_ne _ _ (show ¬ (1 : Nat) = 6 by decide), upf_ne _ _ (show ¬ (1 : Nat) = 7 by decide), upf_ne _ _ (show ¬ (2 : Nat) = 1 by decide), upf_ne _ _ (show ¬ (2 : Nat) = 3 by decide), upf_ne _ _ (show ¬ (2 : Nat) = 4 by decide), upf_ne _ _ (show ¬ (2 : Nat) = 5 by decide), upf_ne _ _ (show ¬ (2 : Nat) = 6 by decide), upf_ne _ _ (show ¬ (2 : Nat) = 7 by decide), upf_ne _ _ (show ¬ (3 : Nat) = 1 by decide), upf_ne _ _ (show ¬ (3 : Nat) = 2 by decide), upf_ne _ _ (show ¬ (3 : Nat) = 4 by decide), upf_ne _ _ (show ¬ (3 : Nat) = 5 by decide), upf_ne _ _ (show ¬ (3 : Nat) = 6 by decide), upf_ne _ _ (show ¬ (3 : Nat) = 7 by decide), upf_ne _ _ (show ¬ (4 : Nat) = 1 by decide), upf_ne _ _ (show ¬ (4 : Nat) = 2 by decide), upf_ne _ _ (show ¬ (4 : Nat) = 3 by decide), upf_ne _ _ (show ¬ (4 : Nat) = 5 by decide), upf_ne _ _ (show ¬ (4 : Nat) = 6 by decide), upf_ne _ _ (show ¬ (4 : Nat) = 7 by decide), upf_ne _ _ (show ¬ (5 : Nat) = 1 by decide), upf_ne _ _ (show ¬ (5 : Nat) = 2 by decide), upf_ne _ _ (show ¬ (5 : Nat) = 3 by decide), upf_ne _ _ (show ¬ (5 : Nat) = 4 by decide), upf_ne _ _ (show ¬ (5 : Nat) = 6 by decide), upf_ne _ _ (show ¬ (5 : Nat) = 7 by decide), upf_ne _ _ (show ¬ (6 : Nat) = 1 by decide), upf_ne _ _ (show ¬ (6 : Nat) = 2 by decide), upf_ne _ _ (show ¬ (6 : Nat) = 3 by decide), upf_ne _ _ (show ¬ (6 : Nat) = 4 by decide), upf_ne _ _ (show ¬ (6 : Nat) = 5 by decide), upf_ne _ _ (show ¬ (6 : Nat) = 7 by decide), upf_ne _ _ (show ¬ (7 : Nat) = 1 by decide), upf_ne _ _ (show ¬ (7 : Nat) = 2 by decide), upf_ne _ _ (show ¬ (7 : Nat) = 3 by decide), upf_ne _ _ (show ¬ (7 : Nat) = 4 by decide), upf_ne _ _ (show ¬ (7 : Nat) = 5 by decide), upf_ne _ _ (show ¬ (7 : Nat) = 6 by decide), hq, t6, t6', inbT hz (show 6 < 2 ^ 31 by decide), nI_clamp (show z < 2 ^ 31 by omega), tk, n1, n2, n3, n4, upf_same, upd_e, n5, ← nI_succ]
  rfl
theorem c_band (hg : cB c = g) (hn : n ≤ 700) (hs' : SBc c.1 c.2.1 s) (hG : c.2.2.2.2.2.2 13 = s) (h1 : 2 ≤ v1 ∧ v1 ≤ 19) (h2 : 20 ≤ v2 ∧ v2 ≤ 900) (h3 : v2 ≤ v3 ∧ v3 ≤ 900) (hA : At g n p (wrd 2 ++ (nmsT [v1, v2, v3] ++ 59 :: rest))) : ∃ p', At g n p' (59 :: rest) ∧ ∀ d K, EvM (d + 3) 38 [.ref 13] (cH (zC c s q a t) (rd g n p nu ec hs sc) st) K = K (.inl (some (.int 1))) (cH (zC c s q (bW a v1 (nI v2) (nI v3)) t) (rd g n p' (nI v3) ec hs sc) st) := by
  have hA : At g n p (wrd 2 ++ 32 :: (dgs v1 ++ 32 :: (dgs v2 ++ 32 :: (dgs v3 ++ 59 :: rest)))) := by
    have e : nmsT [v1, v2, v3] ++ 59 :: rest = 32 :: (dgs v1 ++ 32 :: (dgs v2 ++ 32 :: (dgs v3 ++ 59 :: rest))) := by simp [nmsT]
    rw [← e]; exact hA
  obtain ⟨-, w1, a1⟩ := tok_word (k := 2) (by decide) hA (by decide)
  rw [sk_sp, sk_num (by omega)] at a1
  have a2 := num_at (v := v1) (by omega) (by decide) a1
  rw [sk_sp, sk_num (by omega)] at a2
  have a3 := num_at (v := v2) (by omega) (by decide) a2
  rw [sk_sp, sk_num (by omega)] at a3
  have a4 := num_at (v := v3) (by omega) (by decide) a3
  rw [sk_id (by decide)] at a4
  have hgz : ∀ q a t, cB (zC c s q a t) = g := fun _ _ _ => hg
  refine ⟨_, a4, fun d K => ?_⟩
  have tk := fun q a t K => c_tok (c := zC c s q a t) (d := d + 1) (K := K) (nu := nu) (ec := ec) (hs := hs) (sc := sc) (st := st) (hgz q a t) hn hA.le
  have n1 := fun q a t nu K => num_step (c := zC c s q a t) (d := d) (lo := 2) (hi := 19) (K := K) (nu := nu) (ec := ec) (hs := hs) (sc := sc) (st := st) (hgz q a t) hn (show v1 < 1000 by omega) (rng h1 (by decide)) (by decide) a1
  have n2 := fun q a t nu K => num_step (c := zC c s q a t) (d := d) (lo := 20) (hi := 900) (K := K) (nu := nu) (ec := ec) (hs := hs) (sc := sc) (st := st) (hgz q a t) hn (show v2 < 1000 by omega) (rng h2 (by decide)) (by decide) a2
  have n3 := fun q a t nu K => num_step (c := zC c s q a t) (d := d) (lo := nI v2) (hi := 900) (K := K) (nu := nu) (ec := ec) (hs := hs) (sc := sc) (st := st) (hgz q a t) hn (show v3 < 1000 by omega) (rng h3 (by decide)) (by decide) a3
  simp only [in38, i38_0, i38_1, i38_4, i38_5, i38_6, i38_8, i38_11, i38_14, i38_15, i38_16, i38_17, i38_20, i38_21, i38_22, i38_24, i38_27, i38_30, i38_33, i38_34, i38_35, i38_36, i38_39, i38_40, i38_41, i38_42, i38_45, i38_48, i38_51, i38_52, i38_53, i38_54, i38_57, i38_60, i38_61, i38_62, i38_63, i38_64, i38_67, i38_70, i38_71, i38_72, i38_75, i38_76, i38_77, nl_i, nl_r, nl_0, nl_j, nb0, nb1, nbI, orv_s, konN_v, konN_n, konN_e, true_and, and_true, and_self, if_true, if_false, ite_true, ite_false, isR_ref, true_or, or_true, isR_null, rg10, rg11, rg12, rg13, rg14, rg15, rg16, rh13, rh14, rh15, rh16, bI_T, bI_F, bI_Fb, i1z, Bool.false_eq_true, c_k, c_f6, rd_6, z_g hG, z_k hs', z_w10 hs', z_0 hs', z_1 hs', z_2 hs', z_w0 hs', z_w1 hs', z_w2 hs', z_f3 hs', z_f4 hs', z_f5 hs', z_f6 hs', z_f7 hs', z_f8 hs', z_f9 hs', z_k1 hs', z_k2 hs', z_k3 hs', z_k4 hs', z_k5 hs', z_k6 hs', z_k7 hs', z_l1 hs', z_l2 hs', z_l3 hs', z_l4 hs', z_l5 hs', z_l6 hs', z_l7 hs', z_a1 hs', z_a2 hs', z_a3 hs', z_a4 hs', z_a5 hs', z_a6 hs', z_a7 hs', z_wa1 hs', z_wa2 hs', z_wa3 hs', z_wa4 hs', z_wa5 hs', z_wa6 hs', z_wa7 hs', upf_ne _ _ (show ¬ (1 : Nat) = 2 by decide), upf_ne _ _ (show ¬ (1 : Nat) = 3 by decide), upf_ne _ _ (show ¬ (1 : Nat) = 4 by decide), upf_ne _ _ (show ¬ (1 : Nat) = 5 by decide), upf_ne _ _ (show ¬ (1 : Nat) = 6 by decide), upf_ne _ _ (show ¬ (1 : Nat) = 7 by decide), upf_ne _ _ (show ¬ (2 : Nat) = 1 by decide), upf_ne _ _ (show ¬ (2 : Nat) = 3 by decide), upf_ne _ _ (show ¬ (2 : Nat) = 4 by decide), upf_ne _ _ (show ¬ (2 : Nat) = 5 by decide), upf_ne _ _ (show ¬ (2 : Nat) = 6 by decide), upf_ne _ _ (show ¬ (2 : Nat) = 7 by decide), upf_ne _ _ (show ¬ (3 : Nat) = 1 by decide), upf_ne _ _ (show ¬ (3 : Nat) = 2 by decide), upf_ne _ _ (show ¬ (3 : Nat) = 4 by decide), upf_ne _ _ (show ¬ (3 : Nat) = 5 by decide), upf_ne _ _ (show ¬ (3 : Nat) = 6 by decide), upf_ne _ _ (show ¬ (3 : Nat) = 7 by decide), upf_ne _ _ (show ¬ (4 : Nat) = 1 by decide), upf_ne _ _ (show ¬ (4 : Nat) = 2 by decide), upf_ne _ _ (show ¬ (4 : Nat) = 3 by decide), upf_ne _ _ (show ¬ (4 : Nat) = 5 by decide), upf_ne _ _ (show ¬ (4 : Nat) = 6 by decide), upf_ne _ _ (show ¬ (4 : Nat) = 7 by decide), upf_ne _ _ (show ¬ (5 : Nat) = 1 by decide), upf_ne _ _ (show ¬ (5 : Nat) = 2 by decide), upf_ne _ _ (show ¬ (5 : Nat) = 3 by decide), upf_ne _ _ (show ¬ (5 : Nat) = 4 by decide), upf_ne _ _ (show ¬ (5 : Nat) = 6 by decide), upf_ne _ _ (show ¬ (5 : Nat) = 7 by decide), upf_ne _ _ (show ¬ (6 : Nat) = 1 by decide), upf_ne _ _ (show ¬ (6 : Nat) = 2 by decide), upf_ne _ _ (show ¬ (6 : Nat) = 3 by decide), upf_ne _ _ (show ¬ (6 : Nat) = 4 by decide), upf_ne _ _ (show ¬ (6 : Nat) = 5 by decide), upf_ne _ _ (show ¬ (6 : Nat) = 7 by decide), upf_ne _ _ (show ¬ (7 : Nat) = 1 by decide), upf_ne _ _ (show ¬ (7 : Nat) = 2 by decide), upf_ne _ _ (show ¬ (7 : Nat) = 3 by decide), upf_ne _ _ (show ¬ (7 : Nat) = 4 by decide), upf_ne _ _ (show ¬ (7 : Nat) = 5 by decide), upf_ne _ _ (show ¬ (7 : Nat) = 6 by decide), inbT (show v1 < 20 by omega) (show 20 < 2 ^ 31 by decide), nI_clamp (show v1 < 2 ^ 31 by omega), tk, n1, n2, n3, upf_same]
  rfl
theorem c_heat (hg : cB c = g) (hn : n ≤ 700) (hn10 : 10 ≤ n) (hs' : SBc c.1 c.2.1 s) (hG : c.2.2.2.2.2.2 13 = s) (hsN : s + 7 < hN c.1) (h140 : 140 ≤ s) (hT : ∀ i, hN c.1 ≤ i → c.2.1 i = false) {D : Nat} {h : AH} {B : Nat → Prop} {aa tx V} (hD : D ≤ 2) (hnd : NodeR h B D aa tx L V) (hAt : At g n p (wrd 3 ++ 32 :: (tx 0 ++ 59 :: rest))) : ∃ p' nu', At g n p' (59 :: rest) ∧ ∀ d K, EvM (d + 15) 39 [.ref 13] (cH (zC c s q a t) (rd g n p nu ec 0 sc) st) K = K (.inl (some (.int 1))) (cH (zC (tC c L.length (apL st 0 L)) s q a (hN c.1)) (rd g n p' nu' ec 1 L.length) (apL st 0 L)) := by
  obtain ⟨-, w1, a1⟩ := tok_word (k := 3) (by decide) hAt (by decide)
  have hgz : ∀ q a t, cB (zC c s q a t) = g := fun _ _ _ => hg
  obtain ⟨⟨-, -, -, rdS⟩, hd⟩ := tree_read (c := zC c s q a t) (ec := ec) (hs := 1) (hgz q a t) hn hn10 hD hnd
  rw [sk_sp, (hd 0).sk] at a1
  have hLl : L.length ≤ 7 := by
    have := hnd.gx.2
    rcases (show D = 0 ∨ D = 1 ∨ D = 2 by omega) with rfl | rfl | rfl
    · have : L.length + 1 ≤ 2 := this
      omega
    · have : L.length + 1 ≤ 4 := this
      omega
    · have : L.length + 1 ≤ 8 := this
      omega
  obtain ⟨p', nu', i, l3, hi, a2, r⟩ := rdS 0 (59 :: rest) (nxT g n p) nu 0 st (by omega) (by omega) ⟨59, rest, sk_id (by decide), ⟨by decide, by decide⟩, by simp⟩ ⟨59, rest, rfl, by decide, by decide⟩ a1
  rw [sk_id (by decide)] at a2
  refine ⟨p', nu', a2, fun d K => ?_⟩
  have r' := fun K => (r (d + 14) K (by omega)).trans (sum_end (d := d + 13) (hgz q a t) hn (show i < n by omega) ⟨59, rest, rfl, ⟨by decide, by decide⟩, by simp⟩ a2)
  rw [nI_0, Nat.zero_add] at r'
  have k1 : ∀ K, EvM (d + 14) 40 [.ref 13, .int 0] (cH (zC c s q a t) (rd g n (nxT g n p) nu ec 1 0) st) K = K (.inl (some (.int 1))) (cH (zC c s q a t) (rd g n p' nu' ec 1 L.length) (apL st 0 L)) := fun K => in40.trans (r' K)
  have hx1 : (1 : Int32) = 0 ∨ (1 : Int32) = 1 := Or.inr rfl
  have tk := fun {K nu ec hs sc st} => c_tok (c := zC c s q a t) (d := d + 13) (K := K) (nu := nu) (ec := ec) (hs := hs) (sc := sc) (st := st) (hgz q a t) hn hAt.le
  have w12 : ∀ {r st v}, wF (cH (zC c s q a t) r st) 13 12 (.int v) = cH (zC c s q a t) (upf r 12 v) st := c_w12
  have e12 : upf (rd g n p nu ec 1 sc) 12 0 = rd g n p nu ec 1 0 := rd_u12
  have hsx : hN (cH (zC c s q a t) (rd g n p' nu' ec 1 L.length) (apL st 0 L)) = hN c.1 := rfl
  have hi := fun K => s_heatInit (d := d + 13) (t := hN c.1) (b := 15) (n := L.length) (L := 700) (h := alO (cH (zC c s q a t) (rd g n p' nu' ec 1 L.length) (apL st 0 L)) 1 2 (dfl 0)) (K := K)
      (congrArg Prod.fst (if_pos rfl)) ((ok_O).trans ((if_neg (by rw [hsx]; omega)).trans k_15)) ((ol_O).trans ((if_neg (by rw [hsx]; omega)).trans l_15)) (Nat.le_refl _) (by omega) (Nat.lt_succ_self _) (by show 15 < hN c.1 + 1; omega)
  have h156c : 140 ≤ hN (SP c.1 s q a t) := by rw [sp_N]; omega
  have hm : newHeat (alO (cH (zC c s q a t) (rd g n p' nu' ec 1 L.length) (apL st 0 L)) 1 2 (dfl 0)) (hN c.1) 15 L.length = cH (zC (tC c L.length (apL st 0 L)) s q a t) (rd g n p' nu' ec 1 L.length) (apL st 0 L) := by
    refine (mh_hT3 (h := SP c.1 s q a t) h156c hT).trans ?_
    rw [hT3_SP hsN, upf_same, mh_T (x := hN c.1 + 2) (hT _ (by omega))]
    have e9 : hA (SP (hT3 c.1 L.length (apL st 0 L)) s q a t) (hN c.1 + 2) = fun _ => 0 := by
      refine (if_neg (by omega)).trans ?_
      show hA (hT3 c.1 L.length (apL st 0 L)) (hN c.1 + 2) = _
      unfold hT3 newHeatR
      simp only [oN_O, oN_A, oN_F, oN_W, oa_O, oa_A, oa_F, oa_W, Nat.add_assoc, Nat.reduceAdd, if_true]
    rw [e9]
    rfl
  have hsb : SBc (tC c L.length (apL st 0 L)).1 (tC c L.length (apL st 0 L)).2.1 s := SBc_fr (N := hN c.1) hT3_fr (frT_add (by omega)) hs' hsN
  have g9 : hF (cH (zC c s q a t) (rd g n p' nu' ec 1 L.length) (apL st 0 L)) 13 9 = .ref s := z_g hG
  have f11 : ∀ {r st}, hF (alO (cH (zC c s q a t) r st) 1 2 (dfl 0)) 13 11 = .ref 15 := fun {r st} => (of_O).trans ((if_neg (by show ¬ 13 = hN c.1; omega)).trans f_13_11)
  have f12 : hF (alO (cH (zC c s q a t) (rd g n p' nu' ec 1 L.length) (apL st 0 L)) 1 2 (dfl 0)) 13 12 = .int (nI L.length) := (of_O).trans ((if_neg (by show ¬ 13 = hN c.1; omega)).trans c_f12)
  have k13 : ∀ {r st}, hk (alO (cH (zC c s q a t) r st) 1 2 (dfl 0)) 13 = 5 := fun {r st} => (ok_O).trans ((if_neg (by show ¬ 13 = hN c.1; omega)).trans c_k)
  have kN : hk (alO (cH (zC c s q a t) (rd g n p' nu' ec 1 L.length) (apL st 0 L)) 1 2 (dfl 0)) (hN c.1) = 1 := congrArg Prod.fst (if_pos rfl)
  simp only [in39, i39_0, i39_1, i39_2, i39_5, i39_6, i39_7, i39_10, i39_11, i39_14, i39_15, i39_16, i39_19, i39_22, i39_23, i39_24, i39_25, i39_28, i39_31, i39_32, i39_33, i39_36, i39_37, i39_40, i39_43, i39_46, i39_47, nl_i, nl_r, nl_0, nl_j, nb0, nb1, nbI, orv_s, konN_v, konN_n, konN_e, true_and, and_true, and_self, if_true, if_false, ite_true, ite_false, isR_ref, true_or, or_true, isR_null, rg10, rg11, rg12, rg13, rg14, rg15, rg16, rh13, rh14, rh15, rh16, bI_T, bI_F, bI_Fb, i1z, Bool.false_eq_true, c_k, c_w10, rd_u10, w12, e12, hx1, tk, k1, g9, hsx, k13, f11, f12, kN, hi, hm, z_k hsb, z_w10 hsb]
end STM
