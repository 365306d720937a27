/-! AN EQUATION FOR EACH INSTRUCTION -/
abbrev em72 : MI := (yX5_setPoint, cX5_setPoint, 4, some .int, 5, [])
theorem mm72 : mtab[72]? = some em72 := rfl
theorem in72 {d : Nat} {h : AH} {K : AO → AH → Prop} {v0 : Nat} {v1 : Int32} {v2 : Int32} : EvM d 72 [(.ref v0), (.int v1), (.int v2)] h K = Ev d 72 0 [some (.ref v0), some (.int v1), some (.int v2), none] [] h K := evm_in mm72 (of_decide_eq_true rfl) rfl
theorem i72_0 {d l0 l2 l3 t x h Q} : Ev d 72 0 [l0, some (.int x), l2, l3] t h Q = Ev d 72 1 [l0, some (.int x), l2, l3] (.int x :: t) h Q := en_iload_n mm72 dX5_setPoint_0 rfl
theorem i72_1 {d a l1 l2 l3 t h Q} : Ev d 72 1 [some (.ref a), l1, l2, l3] t h Q = Ev d 72 2 [some (.ref a), l1, l2, l3] (.ref a :: t) h Q := en_aload_n mm72 dX5_setPoint_1 rfl
theorem i72_2 {d a l0 l1 l2 l3 t h Q} : Ev d 72 2 [l0, l1, l2, l3] (.ref a :: t) h Q = (hk h a = 6 ∧ Ev d 72 5 [l0, l1, l2, l3] (hF h a 1 :: t) h Q) := en_getfield (cj := 5) mm72 dX5_setPoint_2 (by decide +kernel)
theorem i72_5 {d a l0 l1 l2 l3 t h Q} : Ev d 72 5 [l0, l1, l2, l3] (.ref a :: t) h Q = (hk h a = 3 ∧ Ev d 72 8 [l0, l1, l2, l3] (hF h a 0 :: t) h Q) := en_getfield (cj := 2) mm72 dX5_setPoint_5 (by decide +kernel)
theorem i72_8 {d a l0 l1 l2 l3 t h Q} : Ev d 72 8 [l0, l1, l2, l3] (.ref a :: t) h Q = (hk h a = 4 ∧ Ev d 72 11 [l0, l1, l2, l3] (hF h a 0 :: t) h Q) := en_getfield (cj := 3) mm72 dX5_setPoint_8 (by decide +kernel)
theorem i72_11 {d l0 l1 l2 l3 x0 x1 h Q} : Ev (d + 1) 72 11 [l0, l1, l2, l3] [x0, x1] h Q = EvM d 80 [x1, x0] h (konN (d + 1) 72 14 [l0, l1, l2, l3] [] Q) := en_staticN mm72 dX5_setPoint_11 (by decide +kernel : ml _ _ = some (0, 80)) (by decide) (rfl : mtab[80]? = some _) (by decide +kernel : npar _ = 2) (of_decide_eq_true rfl) (len_cat (of_decide_eq_true rfl)) rfl rfl rfl
theorem i72_14 {d l0 l1 l3 t x h Q} : Ev d 72 14 [l0, l1, some (.int x), l3] t h Q = Ev d 72 15 [l0, l1, some (.int x), l3] (.int x :: t) h Q := en_iload_n mm72 dX5_setPoint_14 rfl
theorem i72_15 {d l0 l1 l2 l3 t h Q} : Ev d 72 15 [l0, l1, l2, l3] t h Q = Ev d 72 17 [l0, l1, l2, l3] (.int 100 :: t) h Q := en_bipush mm72 dX5_setPoint_15 (by decide)
theorem i72_17 {d l0 l1 l2 l3 t h Q} : Ev d 72 17 [l0, l1, l2, l3] t h Q = Ev d 72 20 [l0, l1, l2, l3] (.int 900 :: t) h Q := en_sipush mm72 dX5_setPoint_17 (by decide)
theorem i72_20 {d l0 l1 l2 l3 x0 x1 x2 h Q} : Ev (d + 1) 72 20 [l0, l1, l2, l3] [x0, x1, x2] h Q = EvM d 79 [x2, x1, x0] h (konN (d + 1) 72 23 [l0, l1, l2, l3] [] Q) := en_staticN mm72 dX5_setPoint_20 (by decide +kernel : ml _ _ = some (0, 79)) (by decide) (rfl : mtab[79]? = some _) (by decide +kernel : npar _ = 3) (of_decide_eq_true rfl) (len_cat (of_decide_eq_true rfl)) rfl rfl rfl
theorem i72_23 {d a l1 l2 l3 t h Q} : Ev d 72 23 [some (.ref a), l1, l2, l3] t h Q = Ev d 72 24 [some (.ref a), l1, l2, l3] (.ref a :: t) h Q := en_aload_n mm72 dX5_setPoint_23 rfl
theorem i72_24 {d a l0 l1 l2 l3 t h Q} : Ev d 72 24 [l0, l1, l2, l3] (.ref a :: t) h Q = (hk h a = 6 ∧ Ev d 72 27 [l0, l1, l2, l3] (hF h a 3 :: t) h Q) := en_getfield (cj := 5) mm72 dX5_setPoint_24 (by decide +kernel)
theorem i72_27 {d a l1 l2 l3 t h Q} : Ev d 72 27 [some (.ref a), l1, l2, l3] t h Q = Ev d 72 28 [some (.ref a), l1, l2, l3] (.ref a :: t) h Q := en_aload_n mm72 dX5_setPoint_27 rfl
theorem i72_28 {d a l0 l1 l2 l3 t h Q} : Ev d 72 28 [l0, l1, l2, l3] (.ref a :: t) h Q = (hk h a = 6 ∧ Ev d 72 31 [l0, l1, l2, l3] (hF h a 1 :: t) h Q) := en_getfield (cj := 5) mm72 dX5_setPoint_28 (by decide +kernel)
theorem i72_31 {d a l0 l1 l2 l3 x0 h Q} : Ev (d + 1) 72 31 [l0, l1, l2, l3] [x0, .ref a] h Q = (hk h a = 2 ∧ EvM d 4 [.ref a, x0] h (konN (d + 1) 72 34 [l0, l1, l2, l3] [] Q)) := en_virtualN mm72 dX5_setPoint_31 (by decide +kernel : ml _ _ = some (3, 4)) (by decide) (rfl : mtab[4]? = some _) (by decide +kernel : npar _ = 1) rfl (by decide) rfl (of_decide_eq_true rfl) (len_cat (of_decide_eq_true rfl)) rfl rfl rfl
theorem i72_34 {d a l1 l2 l3 t h Q} : Ev d 72 34 [some (.ref a), l1, l2, l3] t h Q = Ev d 72 35 [some (.ref a), l1, l2, l3] (.ref a :: t) h Q := en_aload_n mm72 dX5_setPoint_34 rfl
theorem i72_35 {d a l0 l1 l2 l3 t h Q} : Ev d 72 35 [l0, l1, l2, l3] (.ref a :: t) h Q = (hk h a = 6 ∧ Ev d 72 38 [l0, l1, l2, l3] (hF h a 1 :: t) h Q) := en_getfield (cj := 5) mm72 dX5_setPoint_35 (by decide +kernel)
theorem i72_38 {d a l0 l1 l2 l3 t h Q} : Ev d 72 38 [l0, l1, l2, l3] (.ref a :: t) h Q = (hk h a = 3 ∧ Ev d 72 41 [l0, l1, l2, l3] (hF h a 5 :: t) h Q) := en_getfield (cj := 2) mm72 dX5_setPoint_38 (by decide +kernel)
theorem i72_41 {d l0 l2 l3 t x h Q} : Ev d 72 41 [l0, some (.int x), l2, l3] t h Q = Ev d 72 42 [l0, some (.int x), l2, l3] (.int x :: t) h Q := en_iload_n mm72 dX5_setPoint_41 rfl
theorem i72_42 {d a j l0 l1 l2 l3 t h Q} : Ev d 72 42 [l0, l1, l2, l3] (.int j :: .ref a :: t) h Q = (hk h a = 10 ∧ inb j (hl h a) ∧ Ev d 72 43 [l0, l1, l2, l3] (.int (hA h a j.toNatClampNeg) :: t) h Q) := en_iaload mm72 dX5_setPoint_42
theorem i72_43 {d l0 l1 l2 l3 t x h Q} : Ev d 72 43 [l0, l1, l2, l3] (.int x :: t) h Q = Ev d 72 44 [l0, l1, nl l2, some (.int x)] t h Q := en_istore_n mm72 dX5_setPoint_43 (of_decide_eq_true rfl) rfl
theorem i72_44 {d a l1 l2 l3 t h Q} : Ev d 72 44 [some (.ref a), l1, l2, l3] t h Q = Ev d 72 45 [some (.ref a), l1, l2, l3] (.ref a :: t) h Q := en_aload_n mm72 dX5_setPoint_44 rfl
theorem i72_45 {d a l0 l1 l2 l3 t h Q} : Ev d 72 45 [l0, l1, l2, l3] (.ref a :: t) h Q = (hk h a = 6 ∧ Ev d 72 48 [l0, l1, l2, l3] (hF h a 1 :: t) h Q) := en_getfield (cj := 5) mm72 dX5_setPoint_45 (by decide +kernel)
theorem i72_48 {d a l0 l1 l2 l3 t h Q} : Ev d 72 48 [l0, l1, l2, l3] (.ref a :: t) h Q = (hk h a = 3 ∧ Ev d 72 51 [l0, l1, l2, l3] (hF h a 5 :: t) h Q) := en_getfield (cj := 2) mm72 dX5_setPoint_48 (by decide +kernel)
theorem i72_51 {d l0 l2 l3 t x h Q} : Ev d 72 51 [l0, some (.int x), l2, l3] t h Q = Ev d 72 52 [l0, some (.int x), l2, l3] (.int x :: t) h Q := en_iload_n mm72 dX5_setPoint_51 rfl
theorem i72_52 {d l0 l1 l3 t x h Q} : Ev d 72 52 [l0, l1, some (.int x), l3] t h Q = Ev d 72 53 [l0, l1, some (.int x), l3] (.int x :: t) h Q := en_iload_n mm72 dX5_setPoint_52 rfl
theorem i72_53 {d a j l0 l1 l2 l3 t x h Q} : Ev d 72 53 [l0, l1, l2, l3] (.int x :: .int j :: .ref a :: t) h Q = (hk h a = 10 ∧ inb j (hl h a) ∧ Ev d 72 54 [l0, l1, l2, l3] t (wA h a (upd (hA h a) j.toNatClampNeg x)) Q) := en_iastore mm72 dX5_setPoint_53
theorem i72_54 {d l0 l1 l2 t x h Q} : Ev d 72 54 [l0, l1, l2, some (.int x)] t h Q = Ev d 72 55 [l0, l1, l2, some (.int x)] (.int x :: t) h Q := en_iload_n mm72 dX5_setPoint_54 rfl
theorem i72_55 {d l0 l1 l2 l3 x h Q} : Ev d 72 55 [l0, l1, l2, l3] [.int x] h Q = Q (.inl (some (.int x))) h := en_ireturnI mm72 dX5_setPoint_55 rfl
abbrev em73 : MI := (yX5_setCorrection, cX5_setCorrection, 4, some .int, 5, [])
theorem mm73 : mtab[73]? = some em73 := rfl
theorem in73 {d : Nat} {h : AH} {K : AO → AH → Prop} {v0 : Nat} {v1 : Int32} {v2 : Int32} : EvM d 73 [(.ref v0), (.int v1), (.int v2)] h K = Ev d 73 0 [some (.ref v0), some (.int v1), some (.int v2), none] [] h K := evm_in mm73 (of_decide_eq_true rfl) rfl
theorem i73_0 {d l0 l2 l3 t x h Q} : Ev d 73 0 [l0, some (.int x), l2, l3] t h Q = Ev d 73 1 [l0, some (.int x), l2, l3] (.int x :: t) h Q := en_iload_n mm73 dX5_setCorrection_0 rfl
theorem i73_1 {d l0 l1 l2 l3 t h Q} : Ev d 73 1 [l0, l1, l2, l3] t h Q = Ev d 73 2 [l0, l1, l2, l3] (.int 2 :: t) h Q := en_iconst mm73 dX5_setCorrection_1 (by decide)
theorem i73_2 {d l0 l1 l2 l3 t h Q} : Ev d 73 2 [l0, l1, l2, l3] t h Q = Ev d 73 4 [l0, l1, l2, l3] (.int 19 :: t) h Q := en_bipush mm73 dX5_setCorrection_2 (by decide)
theorem i73_4 {d l0 l1 l2 l3 x0 x1 x2 h Q} : Ev (d + 1) 73 4 [l0, l1, l2, l3] [x0, x1, x2] h Q = EvM d 79 [x2, x1, x0] h (konN (d + 1) 73 7 [l0, l1, l2, l3] [] Q) := en_staticN mm73 dX5_setCorrection_4 (by decide +kernel : ml _ _ = some (0, 79)) (by decide) (rfl : mtab[79]? = some _) (by decide +kernel : npar _ = 3) (of_decide_eq_true rfl) (len_cat (of_decide_eq_true rfl)) rfl rfl rfl
theorem i73_7 {d l0 l1 l3 t x h Q} : Ev d 73 7 [l0, l1, some (.int x), l3] t h Q = Ev d 73 8 [l0, l1, some (.int x), l3] (.int x :: t) h Q := en_iload_n mm73 dX5_setCorrection_7 rfl
theorem i73_8 {d l0 l1 l2 l3 t h Q} : Ev d 73 8 [l0, l1, l2, l3] t h Q = Ev d 73 10 [l0, l1, l2, l3] (.int (-50) :: t) h Q := en_bipush mm73 dX5_setCorrection_8 (by decide)
theorem i73_10 {d l0 l1 l2 l3 t h Q} : Ev d 73 10 [l0, l1, l2, l3] t h Q = Ev d 73 12 [l0, l1, l2, l3] (.int 50 :: t) h Q := en_bipush mm73 dX5_setCorrection_10 (by decide)
theorem i73_12 {d l0 l1 l2 l3 x0 x1 x2 h Q} : Ev (d + 1) 73 12 [l0, l1, l2, l3] [x0, x1, x2] h Q = EvM d 79 [x2, x1, x0] h (konN (d + 1) 73 15 [l0, l1, l2, l3] [] Q) := en_staticN mm73 dX5_setCorrection_12 (by decide +kernel : ml _ _ = some (0, 79)) (by decide) (rfl : mtab[79]? = some _) (by decide +kernel : npar _ = 3) (of_decide_eq_true rfl) (len_cat (of_decide_eq_true rfl)) rfl rfl rfl
theorem i73_15 {d a l1 l2 l3 t h Q} : Ev d 73 15 [some (.ref a), l1, l2, l3] t h Q = Ev d 73 16 [some (.ref a), l1, l2, l3] (.ref a :: t) h Q := en_aload_n mm73 dX5_setCorrection_15 rfl
theorem i73_16 {d a l0 l1 l2 l3 h Q} : Ev (d + 1) 73 16 [l0, l1, l2, l3] [.ref a] h Q = (hk h a = 6 ∧ EvM d 78 [.ref a] h (konN (d + 1) 73 19 [l0, l1, l2, l3] [] Q)) := en_virtualN mm73 dX5_setCorrection_16 (by decide +kernel : ml _ _ = some (2, 78)) (by decide) (rfl : mtab[78]? = some _) (by decide +kernel : npar _ = 0) rfl (by decide) rfl (of_decide_eq_true rfl) (len_cat (of_decide_eq_true rfl)) rfl rfl rfl
theorem i73_19 {d a l1 l2 l3 t h Q} : Ev d 73 19 [some (.ref a), l1, l2, l3] t h Q = Ev d 73 20 [some (.ref a), l1, l2, l3] (.ref a :: t) h Q := en_aload_n mm73 dX5_setCorrection_19 rfl
theorem i73_20 {d a l0 l1 l2 l3 t h Q} : Ev d 73 20 [l0, l1, l2, l3] (.ref a :: t) h Q = (hk h a = 6 ∧ Ev d 73 23 [l0, l1, l2, l3] (hF h a 3 :: t) h Q) := en_getfield (cj := 5) mm73 dX5_setCorrection_20 (by decide +kernel)
theorem i73_23 {d a l1 l2 l3 t h Q} : Ev d 73 23 [some (.ref a), l1, l2, l3] t h Q = Ev d 73 24 [some (.ref a), l1, l2, l3] (.ref a :: t) h Q := en_aload_n mm73 dX5_setCorrection_23 rfl
theorem i73_24 {d a l0 l1 l2 l3 t h Q} : Ev d 73 24 [l0, l1, l2, l3] (.ref a :: t) h Q = (hk h a = 6 ∧ Ev d 73 27 [l0, l1, l2, l3] (hF h a 1 :: t) h Q) := en_getfield (cj := 5) mm73 dX5_setCorrection_24 (by decide +kernel)
theorem i73_27 {d a l0 l1 l2 l3 x0 h Q} : Ev (d + 1) 73 27 [l0, l1, l2, l3] [x0, .ref a] h Q = (hk h a = 2 ∧ EvM d 4 [.ref a, x0] h (konN (d + 1) 73 30 [l0, l1, l2, l3] [] Q)) := en_virtualN mm73 dX5_setCorrection_27 (by decide +kernel : ml _ _ = some (3, 4)) (by decide) (rfl : mtab[4]? = some _) (by decide +kernel : npar _ = 1) rfl (by decide) rfl (of_decide_eq_true rfl) (len_cat (of_decide_eq_true rfl)) rfl rfl rfl
theorem i73_30 {d a l1 l2 l3 t h Q} : Ev d 73 30 [some (.ref a), l1, l2, l3] t h Q = Ev d 73 31 [some (.ref a), l1, l2, l3] (.ref a :: t) h Q := en_aload_n mm73 dX5_setCorrection_30 rfl
theorem i73_31 {d a l0 l1 l2 l3 t h Q} : Ev d 73 31 [l0, l1, l2, l3] (.ref a :: t) h Q = (hk h a = 6 ∧ Ev d 73 34 [l0, l1, l2, l3] (hF h a 1 :: t) h Q) := en_getfield (cj := 5) mm73 dX5_setCorrection_31 (by decide +kernel)
theorem i73_34 {d a l0 l1 l2 l3 t h Q} : Ev d 73 34 [l0, l1, l2, l3] (.ref a :: t) h Q = (hk h a = 3 ∧ Ev d 73 37 [l0, l1, l2, l3] (hF h a 14 :: t) h Q) := en_getfield (cj := 2) mm73 dX5_setCorrection_34 (by decide +kernel)
theorem i73_37 {d l0 l2 l3 t x h Q} : Ev d 73 37 [l0, some (.int x), l2, l3] t h Q = Ev d 73 38 [l0, some (.int x), l2, l3] (.int x :: t) h Q := en_iload_n mm73 dX5_setCorrection_37 rfl
theorem i73_38 {d a j l0 l1 l2 l3 t h Q} : Ev d 73 38 [l0, l1, l2, l3] (.int j :: .ref a :: t) h Q = (hk h a = 10 ∧ inb j (hl h a) ∧ Ev d 73 39 [l0, l1, l2, l3] (.int (hA h a j.toNatClampNeg) :: t) h Q) := en_iaload mm73 dX5_setCorrection_38
theorem i73_39 {d l0 l1 l2 l3 t x h Q} : Ev d 73 39 [l0, l1, l2, l3] (.int x :: t) h Q = Ev d 73 40 [l0, l1, nl l2, some (.int x)] t h Q := en_istore_n mm73 dX5_setCorrection_39 (of_decide_eq_true rfl) rfl
theorem i73_40 {d a l1 l2 l3 t h Q} : Ev d 73 40 [some (.ref a), l1, l2, l3] t h Q = Ev d 73 41 [some (.ref a), l1, l2, l3] (.ref a :: t) h Q := en_aload_n mm73 dX5_setCorrection_40 rfl
theorem i73_41 {d a l0 l1 l2 l3 t h Q} : Ev d 73 41 [l0, l1, l2, l3] (.ref a :: t) h Q = (hk h a = 6 ∧ Ev d 73 44 [l0, l1, l2, l3] (hF h a 1 :: t) h Q) := en_getfield (cj := 5) mm73 dX5_setCorrection_41 (by decide +kernel)
theorem i73_44 {d a l0 l1 l2 l3 t h Q} : Ev d 73 44 [l0, l1, l2, l3] (.ref a :: t) h Q = (hk h a = 3 ∧ Ev d 73 47 [l0, l1, l2, l3] (hF h a 14 :: t) h Q) := en_getfield (cj := 2) mm73 dX5_setCorrection_44 (by decide +kernel)
theorem i73_47 {d l0 l2 l3 t x h Q} : Ev d 73 47 [l0, some (.int x), l2, l3] t h Q = Ev d 73 48 [l0, some (.int x), l2, l3] (.int x :: t) h Q := en_iload_n mm73 dX5_setCorrection_47 rfl
theorem i73_48 {d l0 l1 l3 t x h Q} : Ev d 73 48 [l0, l1, some (.int x), l3] t h Q = Ev d 73 49 [l0, l1, some (.int x), l3] (.int x :: t) h Q := en_iload_n mm73 dX5_setCorrection_48 rfl
theorem i73_49 {d a j l0 l1 l2 l3 t x h Q} : Ev d 73 49 [l0, l1, l2, l3] (.int x :: .int j :: .ref a :: t) h Q = (hk h a = 10 ∧ inb j (hl h a) ∧ Ev d 73 50 [l0, l1, l2, l3] t (wA h a (upd (hA h a) j.toNatClampNeg x)) Q) := en_iastore mm73 dX5_setCorrection_49
theorem i73_50 {d l0 l1 l2 t x h Q} : Ev d 73 50 [l0, l1, l2, some (.int x)] t h Q = Ev d 73 51 [l0, l1, l2, some (.int x)] (.int x :: t) h Q := en_iload_n mm73 dX5_setCorrection_50 rfl
theorem i73_51 {d l0 l1 l2 l3 x h Q} : Ev d 73 51 [l0, l1, l2, l3] [.int x] h Q = Q (.inl (some (.int x))) h := en_ireturnI mm73 dX5_setCorrection_51 rfl
abbrev em74 : MI := (yX5_scrap, cX5_scrap, 3, some .int, 5, [])
theorem mm74 : mtab[74]? = some em74 := rfl
theorem in74 {d : Nat} {h : AH} {K : AO → AH → Prop} {v0 : Nat} {v1 : Int32} : EvM d 74 [(.ref v0), (.int v1)] h K = Ev d 74 0 [some (.ref v0), some (.int v1), none] [] h K := evm_in mm74 (of_decide_eq_true rfl) rfl
theorem i74_0 {d l0 l2 t x h Q} : Ev d 74 0 [l0, some (.int x), l2] t h Q = Ev d 74 1 [l0, some (.int x), l2] (.int x :: t) h Q := en_iload_n mm74 dX5_scrap_0 rfl
theorem i74_1 {d a l1 l2 t h Q} : Ev d 74 1 [some (.ref a), l1, l2] t h Q = Ev d 74 2 [some (.ref a), l1, l2] (.ref a :: t) h Q := en_aload_n mm74 dX5_scrap_1 rfl
theorem i74_2 {d a l0 l1 l2 t h Q} : Ev d 74 2 [l0, l1, l2] (.ref a :: t) h Q = (hk h a = 6 ∧ Ev d 74 5 [l0, l1, l2] (hF h a 1 :: t) h Q) := en_getfield (cj := 5) mm74 dX5_scrap_2 (by decide +kernel)
theorem i74_5 {d a l0 l1 l2 t h Q} : Ev d 74 5 [l0, l1, l2] (.ref a :: t) h Q = (hk h a = 3 ∧ Ev d 74 8 [l0, l1, l2] (hF h a 2 :: t) h Q) := en_getfield (cj := 2) mm74 dX5_scrap_5 (by decide +kernel)
theorem i74_8 {d l0 l1 l2 x0 x1 h Q} : Ev (d + 1) 74 8 [l0, l1, l2] [x0, x1] h Q = EvM d 80 [x1, x0] h (konN (d + 1) 74 11 [l0, l1, l2] [] Q) := en_staticN mm74 dX5_scrap_8 (by decide +kernel : ml _ _ = some (0, 80)) (by decide) (rfl : mtab[80]? = some _) (by decide +kernel : npar _ = 2) (of_decide_eq_true rfl) (len_cat (of_decide_eq_true rfl)) rfl rfl rfl
theorem i74_11 {d a l1 l2 t h Q} : Ev d 74 11 [some (.ref a), l1, l2] t h Q = Ev d 74 12 [some (.ref a), l1, l2] (.ref a :: t) h Q := en_aload_n mm74 dX5_scrap_11 rfl
theorem i74_12 {d a l0 l1 l2 t h Q} : Ev d 74 12 [l0, l1, l2] (.ref a :: t) h Q = (hk h a = 6 ∧ Ev d 74 15 [l0, l1, l2] (hF h a 1 :: t) h Q) := en_getfield (cj := 5) mm74 dX5_scrap_12 (by decide +kernel)
theorem i74_15 {d a l0 l1 l2 t h Q} : Ev d 74 15 [l0, l1, l2] (.ref a :: t) h Q = (hk h a = 3 ∧ Ev d 74 18 [l0, l1, l2] (hF h a 10 :: t) h Q) := en_getfield (cj := 2) mm74 dX5_scrap_15 (by decide +kernel)
theorem i74_18 {d l0 l2 t x h Q} : Ev d 74 18 [l0, some (.int x), l2] t h Q = Ev d 74 19 [l0, some (.int x), l2] (.int x :: t) h Q := en_iload_n mm74 dX5_scrap_18 rfl
theorem i74_19 {d a j l0 l1 l2 t h Q} : Ev d 74 19 [l0, l1, l2] (.int j :: .ref a :: t) h Q = (hk h a = 10 ∧ inb j (hl h a) ∧ Ev d 74 20 [l0, l1, l2] (.int (hA h a j.toNatClampNeg) :: t) h Q) := en_iaload mm74 dX5_scrap_19
theorem i74_20 {d l0 l1 l2 t x h Q} : Ev d 74 20 [l0, l1, l2] (.int x :: t) h Q = Ev d 74 21 [l0, nl l1, some (.int x)] t h Q := en_istore_n mm74 dX5_scrap_20 (of_decide_eq_true rfl) rfl
theorem i74_21 {d l0 l1 t x h Q} : Ev d 74 21 [l0, l1, some (.int x)] t h Q = Ev d 74 22 [l0, l1, some (.int x)] (.int x :: t) h Q := en_iload_n mm74 dX5_scrap_21 rfl
theorem i74_22 {d l0 l1 l2 t x h Q} : Ev d 74 22 [l0, l1, l2] (.int x :: t) h Q = if x = 0 then Ev d 74 40 [l0, l1, l2] t h Q else Ev d 74 25 [l0, l1, l2] t h Q := en_if_eq mm74 dX5_scrap_22 rfl
theorem i74_25 {d l0 l1 t x h Q} : Ev d 74 25 [l0, l1, some (.int x)] t h Q = Ev d 74 26 [l0, l1, some (.int x)] (.int x :: t) h Q := en_iload_n mm74 dX5_scrap_25 rfl
theorem i74_26 {d l0 l1 l2 t h Q} : Ev d 74 26 [l0, l1, l2] t h Q = Ev d 74 27 [l0, l1, l2] (.int 1 :: t) h Q := en_iconst mm74 dX5_scrap_26 (by decide)
theorem i74_27 {d l0 l1 l2 t x y h Q} : Ev d 74 27 [l0, l1, l2] (.int y :: .int x :: t) h Q = if x = y then Ev d 74 40 [l0, l1, l2] t h Q else Ev d 74 30 [l0, l1, l2] t h Q := en_ic_eq mm74 dX5_scrap_27 rfl
theorem i74_30 {d l0 l1 l2 h Q} : Ev (d + 10) 74 30 [l0, l1, l2] [] h Q = Q (.inr 1) (alH h) := en_throw mm74 dX5_scrap_30 (by decide +kernel) (athr_of (by decide +kernel : look _ exT = some (914, 1)) dX5_scrap_33 dX5_scrap_34 dX5_scrap_36 dX5_scrap_39 (by decide +kernel) (by decide +kernel) rfl)
theorem i74_33 {d a l0 l1 l2 t h Q} : Ev d 74 33 [l0, l1, l2] (.ref a :: t) h Q = Ev d 74 34 [l0, l1, l2] (.ref a :: .ref a :: t) h Q := en_dup mm74 dX5_scrap_33
theorem i74_34 {d l0 l1 l2 t h Q} : Ev d 74 34 [l0, l1, l2] t h Q = Ev d 74 36 [l0, l1, l2] (litV 24 :: t) h Q := en_ldcS mm74 dX5_scrap_34 (by decide +kernel) (by decide +kernel)
theorem i74_40 {d a l1 l2 t h Q} : Ev d 74 40 [some (.ref a), l1, l2] t h Q = Ev d 74 41 [some (.ref a), l1, l2] (.ref a :: t) h Q := en_aload_n mm74 dX5_scrap_40 rfl
theorem i74_41 {d a l0 l1 l2 t h Q} : Ev d 74 41 [l0, l1, l2] (.ref a :: t) h Q = (hk h a = 6 ∧ Ev d 74 44 [l0, l1, l2] (hF h a 3 :: t) h Q) := en_getfield (cj := 5) mm74 dX5_scrap_41 (by decide +kernel)
theorem i74_44 {d a l1 l2 t h Q} : Ev d 74 44 [some (.ref a), l1, l2] t h Q = Ev d 74 45 [some (.ref a), l1, l2] (.ref a :: t) h Q := en_aload_n mm74 dX5_scrap_44 rfl
theorem i74_45 {d a l0 l1 l2 t h Q} : Ev d 74 45 [l0, l1, l2] (.ref a :: t) h Q = (hk h a = 6 ∧ Ev d 74 48 [l0, l1, l2] (hF h a 1 :: t) h Q) := en_getfield (cj := 5) mm74 dX5_scrap_45 (by decide +kernel)
theorem i74_48 {d a l0 l1 l2 x0 h Q} : Ev (d + 1) 74 48 [l0, l1, l2] [x0, .ref a] h Q = (hk h a = 2 ∧ EvM d 4 [.ref a, x0] h (konN (d + 1) 74 51 [l0, l1, l2] [] Q)) := en_virtualN mm74 dX5_scrap_48 (by decide +kernel : ml _ _ = some (3, 4)) (by decide) (rfl : mtab[4]? = some _) (by decide +kernel : npar _ = 1) rfl (by decide) rfl (of_decide_eq_true rfl) (len_cat (of_decide_eq_true rfl)) rfl rfl rfl
theorem i74_51 {d a l1 l2 t h Q} : Ev d 74 51 [some (.ref a), l1, l2] t h Q = Ev d 74 52 [some (.ref a), l1, l2] (.ref a :: t) h Q := en_aload_n mm74 dX5_scrap_51 rfl
theorem i74_52 {d a l0 l1 l2 t h Q} : Ev d 74 52 [l0, l1, l2] (.ref a :: t) h Q = (hk h a = 6 ∧ Ev d 74 55 [l0, l1, l2] (hF h a 1 :: t) h Q) := en_getfield (cj := 5) mm74 dX5_scrap_52 (by decide +kernel)
theorem i74_55 {d l0 l2 t x h Q} : Ev d 74 55 [l0, some (.int x), l2] t h Q = Ev d 74 56 [l0, some (.int x), l2] (.int x :: t) h Q := en_iload_n mm74 dX5_scrap_55 rfl
theorem i74_56 {d a l0 l1 l2 x0 h Q} : Ev (d + 1) 74 56 [l0, l1, l2] [x0, .ref a] h Q = (hk h a = 3 ∧ EvM d 28 [.ref a, x0] h (konN (d + 1) 74 59 [l0, l1, l2] [] Q)) := en_virtualN mm74 dX5_scrap_56 (by decide +kernel : ml _ _ = some (3, 28)) (by decide) (rfl : mtab[28]? = some _) (by decide +kernel : npar _ = 1) rfl (by decide) rfl (of_decide_eq_true rfl) (len_cat (of_decide_eq_true rfl)) rfl rfl rfl
theorem i74_59 {d l0 l1 t x h Q} : Ev d 74 59 [l0, l1, some (.int x)] t h Q = Ev d 74 60 [l0, l1, some (.int x)] (.int x :: t) h Q := en_iload_n mm74 dX5_scrap_59 rfl
theorem i74_60 {d l0 l1 l2 x h Q} : Ev d 74 60 [l0, l1, l2] [.int x] h Q = Q (.inl (some (.int x))) h := en_ireturnI mm74 dX5_scrap_60 rfl
abbrev em75 : MI := (yX5_undo, cX5_undo, 1, some .int, 5, [])
theorem mm75 : mtab[75]? = some em75 := rfl
theorem in75 {d : Nat} {h : AH} {K : AO → AH → Prop} {v0 : Nat} : EvM d 75 [(.ref v0)] h K = Ev d 75 0 [some (.ref v0)] [] h K := evm_in mm75 (of_decide_eq_true rfl) rfl
theorem i75_0 {d a t h Q} : Ev d 75 0 [some (.ref a)] t h Q = Ev d 75 1 [some (.ref a)] (.ref a :: t) h Q := en_aload_n mm75 dX5_undo_0 rfl
theorem i75_1 {d a l0 t h Q} : Ev d 75 1 [l0] (.ref a :: t) h Q = (hk h a = 6 ∧ Ev d 75 4 [l0] (hF h a 3 :: t) h Q) := en_getfield (cj := 5) mm75 dX5_undo_1 (by decide +kernel)
theorem i75_4 {d a t h Q} : Ev d 75 4 [some (.ref a)] t h Q = Ev d 75 5 [some (.ref a)] (.ref a :: t) h Q := en_aload_n mm75 dX5_undo_4 rfl
theorem i75_5 {d a l0 t h Q} : Ev d 75 5 [l0] (.ref a :: t) h Q = (hk h a = 6 ∧ Ev d 75 8 [l0] (hF h a 1 :: t) h Q) := en_getfield (cj := 5) mm75 dX5_undo_5 (by decide +kernel)
theorem i75_8 {d a l0 x0 h Q} : Ev (d + 1) 75 8 [l0] [x0, .ref a] h Q = (hk h a = 2 ∧ EvM d 5 [.ref a, x0] h (konN (d + 1) 75 11 [l0] [] Q)) := en_virtualN mm75 dX5_undo_8 (by decide +kernel : ml _ _ = some (3, 5)) (by decide) (rfl : mtab[5]? = some _) (by decide +kernel : npar _ = 1) rfl (by decide) rfl (of_decide_eq_true rfl) (len_cat (of_decide_eq_true rfl)) rfl rfl rfl
theorem i75_11 {d l0 x h Q} : Ev d 75 11 [l0] [.int x] h Q = Q (.inl (some (.int x))) h := en_ireturnI mm75 dX5_undo_11 rfl
abbrev em76 : MI := (yX5_checksum, cX5_checksum, 1, some .long, 5, [])
theorem mm76 : mtab[76]? = some em76 := rfl
theorem in76 {d : Nat} {h : AH} {K : AO → AH → Prop} {v0 : Nat} : EvM d 76 [(.ref v0)] h K = Ev d 76 0 [some (.ref v0)] [] h K := evm_in mm76 (of_decide_eq_true rfl) rfl
theorem i76_0 {d a t h Q} : Ev d 76 0 [some (.ref a)] t h Q = Ev d 76 1 [some (.ref a)] (.ref a :: t) h Q := en_aload_n mm76 dX5_checksum_0 rfl
theorem i76_1 {d a l0 t h Q} : Ev d 76 1 [l0] (.ref a :: t) h Q = (hk h a = 6 ∧ Ev d 76 4 [l0] (hF h a 1 :: t) h Q) := en_getfield (cj := 5) mm76 dX5_checksum_1 (by decide +kernel)
theorem i76_4 {d a l0 h Q} : Ev (d + 1) 76 4 [l0] [.ref a] h Q = (hk h a = 3 ∧ EvM d 29 [.ref a] h (konN (d + 1) 76 7 [l0] [] Q)) := en_virtualN mm76 dX5_checksum_4 (by decide +kernel : ml _ _ = some (3, 29)) (by decide) (rfl : mtab[29]? = some _) (by decide +kernel : npar _ = 0) rfl (by decide) rfl (of_decide_eq_true rfl) (len_cat (of_decide_eq_true rfl)) rfl rfl rfl
theorem i76_7 {d l0 x h Q} : Ev d 76 7 [l0] [.long x] h Q = Q (.inl (some (.long x))) h := en_lreturn mm76 dX5_checksum_7 rfl
abbrev em77 : MI := (yX5_doneWith, cX5_doneWith, 2, some .int, 5, [])
theorem mm77 : mtab[77]? = some em77 := rfl
theorem in77 {d : Nat} {h : AH} {K : AO → AH → Prop} {v0 : Nat} {v1 : Int32} : EvM d 77 [(.ref v0), (.int v1)] h K = Ev d 77 0 [some (.ref v0), some (.int v1)] [] h K := evm_in mm77 (of_decide_eq_true rfl) rfl
theorem i77_0 {d a l1 t h Q} : Ev d 77 0 [some (.ref a), l1] t h Q = Ev d 77 1 [some (.ref a), l1] (.ref a :: t) h Q := en_aload_n mm77 dX5_doneWith_0 rfl
theorem i77_1 {d a l0 l1 t h Q} : Ev d 77 1 [l0, l1] (.ref a :: t) h Q = (hk h a = 6 ∧ Ev d 77 4 [l0, l1] (hF h a 2 :: t) h Q) := en_getfield (cj := 5) mm77 dX5_doneWith_1 (by decide +kernel)
theorem i77_4 {d a l1 t h Q} : Ev d 77 4 [some (.ref a), l1] t h Q = Ev d 77 5 [some (.ref a), l1] (.ref a :: t) h Q := en_aload_n mm77 dX5_doneWith_4 rfl
theorem i77_5 {d a l0 l1 t h Q} : Ev d 77 5 [l0, l1] (.ref a :: t) h Q = (hk h a = 6 ∧ Ev d 77 8 [l0, l1] (hF h a 1 :: t) h Q) := en_getfield (cj := 5) mm77 dX5_doneWith_5 (by decide +kernel)
theorem i77_8 {d a l0 l1 x0 h Q} : Ev (d + 1) 77 8 [l0, l1] [x0, .ref a] h Q = (hk h a = 3 ∧ EvM d 13 [.ref a, x0] h (konN (d + 1) 77 11 [l0, l1] [] Q)) := en_virtualN mm77 dX5_doneWith_8 (by decide +kernel : ml _ _ = some (3, 13)) (by decide) (rfl : mtab[13]? = some _) (by decide +kernel : npar _ = 1) rfl (by decide) rfl (of_decide_eq_true rfl) (len_cat (of_decide_eq_true rfl)) rfl rfl rfl
theorem i77_11 {d a l1 t h Q} : Ev d 77 11 [some (.ref a), l1] t h Q = Ev d 77 12 [some (.ref a), l1] (.ref a :: t) h Q := en_aload_n mm77 dX5_doneWith_11 rfl
theorem i77_12 {d a l0 l1 t h Q} : Ev d 77 12 [l0, l1] (.ref a :: t) h Q = (hk h a = 6 ∧ Ev d 77 15 [l0, l1] (hF h a 2 :: t) h Q) := en_getfield (cj := 5) mm77 dX5_doneWith_12 (by decide +kernel)
theorem i77_15 {d a l0 l1 h Q} : Ev (d + 1) 77 15 [l0, l1] [.ref a] h Q = (hk h a = 3 ∧ EvM d 7 [.ref a] h (konN (d + 1) 77 18 [l0, l1] [] Q)) := en_virtualN mm77 dX5_doneWith_15 (by decide +kernel : ml _ _ = some (3, 7)) (by decide) (rfl : mtab[7]? = some _) (by decide +kernel : npar _ = 0) rfl (by decide) rfl (of_decide_eq_true rfl) (len_cat (of_decide_eq_true rfl)) rfl rfl rfl
theorem i77_18 {d l0 l1 t x h Q} : Ev d 77 18 [l0, l1] (.int x :: t) h Q = if x = 0 then Ev d 77 42 [l0, l1] t h Q else Ev d 77 21 [l0, l1] t h Q := en_if_eq mm77 dX5_doneWith_18 rfl
theorem i77_21 {d a l1 t h Q} : Ev d 77 21 [some (.ref a), l1] t h Q = Ev d 77 22 [some (.ref a), l1] (.ref a :: t) h Q := en_aload_n mm77 dX5_doneWith_21 rfl
theorem i77_22 {d a l0 l1 t h Q} : Ev d 77 22 [l0, l1] (.ref a :: t) h Q = (hk h a = 6 ∧ Ev d 77 25 [l0, l1] (hF h a 2 :: t) h Q) := en_getfield (cj := 5) mm77 dX5_doneWith_22 (by decide +kernel)
theorem i77_25 {d a l0 l1 t h Q} : Ev d 77 25 [l0, l1] (.ref a :: t) h Q = (hk h a = 3 ∧ Ev d 77 28 [l0, l1] (hF h a 5 :: t) h Q) := en_getfield (cj := 2) mm77 dX5_doneWith_25 (by decide +kernel)
theorem i77_28 {d a l1 t h Q} : Ev d 77 28 [some (.ref a), l1] t h Q = Ev d 77 29 [some (.ref a), l1] (.ref a :: t) h Q := en_aload_n mm77 dX5_doneWith_28 rfl
theorem i77_29 {d a l0 l1 t h Q} : Ev d 77 29 [l0, l1] (.ref a :: t) h Q = (hk h a = 6 ∧ Ev d 77 32 [l0, l1] (hF h a 2 :: t) h Q) := en_getfield (cj := 5) mm77 dX5_doneWith_29 (by decide +kernel)
theorem i77_32 {d a l0 l1 t h Q} : Ev d 77 32 [l0, l1] (.ref a :: t) h Q = (hk h a = 3 ∧ Ev d 77 35 [l0, l1] (hF h a 0 :: t) h Q) := en_getfield (cj := 2) mm77 dX5_doneWith_32 (by decide +kernel)
theorem i77_35 {d a l0 l1 t h Q} : Ev d 77 35 [l0, l1] (.ref a :: t) h Q = (hk h a = 4 ∧ Ev d 77 38 [l0, l1] (hF h a 0 :: t) h Q) := en_getfield (cj := 3) mm77 dX5_doneWith_35 (by decide +kernel)
theorem i77_38 {d l0 l1 t h Q} : Ev d 77 38 [l0, l1] t h Q = Ev d 77 39 [l0, l1] (.int 1 :: t) h Q := en_iconst mm77 dX5_doneWith_38 (by decide)
theorem i77_39 {d l0 l1 t x y h Q} : Ev d 77 39 [l0, l1] (.int y :: .int x :: t) h Q = Ev d 77 40 [l0, l1] (.int (x - y) :: t) h Q := en_isub mm77 dX5_doneWith_39
theorem i77_40 {d l0 t x h Q} : Ev d 77 40 [l0, some (.int x)] t h Q = Ev d 77 41 [l0, some (.int x)] (.int x :: t) h Q := en_iload_n mm77 dX5_doneWith_40 rfl
theorem i77_41 {d a j l0 l1 t x h Q} : Ev d 77 41 [l0, l1] (.int x :: .int j :: .ref a :: t) h Q = (hk h a = 10 ∧ inb j (hl h a) ∧ Ev d 77 42 [l0, l1] t (wA h a (upd (hA h a) j.toNatClampNeg x)) Q) := en_iastore mm77 dX5_doneWith_41
theorem i77_42 {d a l1 t h Q} : Ev d 77 42 [some (.ref a), l1] t h Q = Ev d 77 43 [some (.ref a), l1] (.ref a :: t) h Q := en_aload_n mm77 dX5_doneWith_42 rfl
theorem i77_43 {d a l0 l1 t h Q} : Ev d 77 43 [l0, l1] (.ref a :: t) h Q = (hk h a = 6 ∧ Ev d 77 46 [l0, l1] (hF h a 2 :: t) h Q) := en_getfield (cj := 5) mm77 dX5_doneWith_43 (by decide +kernel)
theorem i77_46 {d l0 l1 t h Q} : Ev d 77 46 [l0, l1] t h Q = Ev d 77 49 [l0, l1] (.int 200 :: t) h Q := en_sipush mm77 dX5_doneWith_46 (by decide)
theorem i77_49 {d a l0 l1 x0 h Q} : Ev (d + 1) 77 49 [l0, l1] [x0, .ref a] h Q = (hk h a = 3 ∧ EvM d 16 [.ref a, x0] h (konN (d + 1) 77 52 [l0, l1] [] Q)) := en_virtualN mm77 dX5_doneWith_49 (by decide +kernel : ml _ _ = some (3, 16)) (by decide) (rfl : mtab[16]? = some _) (by decide +kernel : npar _ = 1) rfl (by decide) rfl (of_decide_eq_true rfl) (len_cat (of_decide_eq_true rfl)) rfl rfl rfl
theorem i77_52 {d l0 l1 t x h Q} : Ev d 77 52 [l0, l1] (.int x :: t) h Q = Ev d 77 53 [l0, l1] t h Q := en_popI mm77 dX5_doneWith_52
theorem i77_53 {d a l1 t h Q} : Ev d 77 53 [some (.ref a), l1] t h Q = Ev d 77 54 [some (.ref a), l1] (.ref a :: t) h Q := en_aload_n mm77 dX5_doneWith_53 rfl
theorem i77_54 {d a l0 l1 t h Q} : Ev d 77 54 [l0, l1] (.ref a :: t) h Q = (hk h a = 6 ∧ Ev d 77 57 [l0, l1] (hF h a 2 :: t) h Q) := en_getfield (cj := 5) mm77 dX5_doneWith_54 (by decide +kernel)
theorem i77_57 {d l0 l1 t h Q} : Ev d 77 57 [l0, l1] t h Q = Ev d 77 58 [l0, l1] (.int 3 :: t) h Q := en_iconst mm77 dX5_doneWith_57 (by decide)
theorem i77_58 {d a l0 l1 x0 h Q} : Ev (d + 1) 77 58 [l0, l1] [x0, .ref a] h Q = (hk h a = 3 ∧ EvM d 14 [.ref a, x0] h (konN (d + 1) 77 61 [l0, l1] [] Q)) := en_virtualN mm77 dX5_doneWith_58 (by decide +kernel : ml _ _ = some (3, 14)) (by decide) (rfl : mtab[14]? = some _) (by decide +kernel : npar _ = 1) rfl (by decide) rfl (of_decide_eq_true rfl) (len_cat (of_decide_eq_true rfl)) rfl rfl rfl
theorem i77_61 {d l0 l1 x h Q} : Ev d 77 61 [l0, l1] [.int x] h Q = Q (.inl (some (.int x))) h := en_ireturnI mm77 dX5_doneWith_61 rfl
abbrev em78 : MI := (yX5_requireLine, cX5_requireLine, 1, none, 5, [])
theorem mm78 : mtab[78]? = some em78 := rfl
theorem in78 {d : Nat} {h : AH} {K : AO → AH → Prop} {v0 : Nat} : EvM d 78 [(.ref v0)] h K = Ev d 78 0 [some (.ref v0)] [] h K := evm_in mm78 (of_decide_eq_true rfl) rfl
theorem i78_0 {d a t h Q} : Ev d 78 0 [some (.ref a)] t h Q = Ev d 78 1 [some (.ref a)] (.ref a :: t) h Q := en_aload_n mm78 dX5_requireLine_0 rfl
theorem i78_1 {d a l0 t h Q} : Ev d 78 1 [l0] (.ref a :: t) h Q = (hk h a = 6 ∧ Ev d 78 4 [l0] (hF h a 1 :: t) h Q) := en_getfield (cj := 5) mm78 dX5_requireLine_1 (by decide +kernel)
theorem i78_4 {d a l0 h Q} : Ev (d + 1) 78 4 [l0] [.ref a] h Q = (hk h a = 3 ∧ EvM d 7 [.ref a] h (konN (d + 1) 78 7 [l0] [] Q)) := en_virtualN mm78 dX5_requireLine_4 (by decide +kernel : ml _ _ = some (3, 7)) (by decide) (rfl : mtab[7]? = some _) (by decide +kernel : npar _ = 0) rfl (by decide) rfl (of_decide_eq_true rfl) (len_cat (of_decide_eq_true rfl)) rfl rfl rfl
theorem i78_7 {d l0 t x h Q} : Ev d 78 7 [l0] (.int x :: t) h Q = if x = 0 then Ev d 78 10 [l0] t h Q else Ev d 78 20 [l0] t h Q := en_if_ne mm78 dX5_requireLine_7 rfl
theorem i78_10 {d l0 h Q} : Ev (d + 10) 78 10 [l0] [] h Q = Q (.inr 1) (alH h) := en_throw mm78 dX5_requireLine_10 (by decide +kernel) (athr_of (by decide +kernel : look _ exT = some (914, 1)) dX5_requireLine_13 dX5_requireLine_14 dX5_requireLine_16 dX5_requireLine_19 (by decide +kernel) (by decide +kernel) rfl)
theorem i78_13 {d a l0 t h Q} : Ev d 78 13 [l0] (.ref a :: t) h Q = Ev d 78 14 [l0] (.ref a :: .ref a :: t) h Q := en_dup mm78 dX5_requireLine_13
theorem i78_14 {d l0 t h Q} : Ev d 78 14 [l0] t h Q = Ev d 78 16 [l0] (litV 21 :: t) h Q := en_ldcS mm78 dX5_requireLine_14 (by decide +kernel) (by decide +kernel)
theorem i78_20 {d l0 h Q} : Ev d 78 20 [l0] [] h Q = Q (.inl none) h := en_return mm78 dX5_requireLine_20 rfl
abbrev em79 : MI := (yX5_requireArgument, cX5_requireArgument, 3, none, 5, [])
theorem mm79 : mtab[79]? = some em79 := rfl
theorem in79 {d : Nat} {h : AH} {K : AO → AH → Prop} {v0 : Int32} {v1 : Int32} {v2 : Int32} : EvM d 79 [(.int v0), (.int v1), (.int v2)] h K = Ev d 79 0 [some (.int v0), some (.int v1), some (.int v2)] [] h K := evm_in mm79 (of_decide_eq_true rfl) rfl
theorem i79_0 {d l1 l2 t x h Q} : Ev d 79 0 [some (.int x), l1, l2] t h Q = Ev d 79 1 [some (.int x), l1, l2] (.int x :: t) h Q := en_iload_n mm79 dX5_requireArgument_0 rfl
theorem i79_1 {d l0 l2 t x h Q} : Ev d 79 1 [l0, some (.int x), l2] t h Q = Ev d 79 2 [l0, some (.int x), l2] (.int x :: t) h Q := en_iload_n mm79 dX5_requireArgument_1 rfl
theorem i79_2 {d l0 l1 t x h Q} : Ev d 79 2 [l0, l1, some (.int x)] t h Q = Ev d 79 3 [l0, l1, some (.int x)] (.int x :: t) h Q := en_iload_n mm79 dX5_requireArgument_2 rfl
theorem i79_3 {d l0 l1 l2 x0 x1 x2 h Q} : Ev (d + 1) 79 3 [l0, l1, l2] [x0, x1, x2] h Q = EvM d 81 [x2, x1, x0] h (konN (d + 1) 79 6 [l0, l1, l2] [] Q) := en_staticN mm79 dX5_requireArgument_3 (by decide +kernel : ml _ _ = some (0, 81)) (by decide) (rfl : mtab[81]? = some _) (by decide +kernel : npar _ = 3) (of_decide_eq_true rfl) (len_cat (of_decide_eq_true rfl)) rfl rfl rfl
theorem i79_6 {d l0 l1 l2 t x h Q} : Ev d 79 6 [l0, l1, l2] (.int x :: t) h Q = if x = 0 then Ev d 79 9 [l0, l1, l2] t h Q else Ev d 79 19 [l0, l1, l2] t h Q := en_if_ne mm79 dX5_requireArgument_6 rfl
theorem i79_9 {d l0 l1 l2 h Q} : Ev (d + 10) 79 9 [l0, l1, l2] [] h Q = Q (.inr 0) (alH h) := en_throw mm79 dX5_requireArgument_9 (by decide +kernel) (athr_of (by decide +kernel : look _ exT = some (615, 0)) dX5_requireArgument_12 dX5_requireArgument_13 dX5_requireArgument_15 dX5_requireArgument_18 (by decide +kernel) (by decide +kernel) rfl)
theorem i79_12 {d a l0 l1 l2 t h Q} : Ev d 79 12 [l0, l1, l2] (.ref a :: t) h Q = Ev d 79 13 [l0, l1, l2] (.ref a :: .ref a :: t) h Q := en_dup mm79 dX5_requireArgument_12
theorem i79_13 {d l0 l1 l2 t h Q} : Ev d 79 13 [l0, l1, l2] t h Q = Ev d 79 15 [l0, l1, l2] (litV 17 :: t) h Q := en_ldcS mm79 dX5_requireArgument_13 (by decide +kernel) (by decide +kernel)
theorem i79_19 {d l0 l1 l2 h Q} : Ev d 79 19 [l0, l1, l2] [] h Q = Q (.inl none) h := en_return mm79 dX5_requireArgument_19 rfl
abbrev em80 : MI := (yX5_requireIndex, cX5_requireIndex, 2, none, 5, [])
theorem mm80 : mtab[80]? = some em80 := rfl
theorem in80 {d : Nat} {h : AH} {K : AO → AH → Prop} {v0 : Int32} {v1 : Int32} : EvM d 80 [(.int v0), (.int v1)] h K = Ev d 80 0 [some (.int v0), some (.int v1)] [] h K := evm_in mm80 (of_decide_eq_true rfl) rfl
theorem i80_0 {d l1 t x h Q} : Ev d 80 0 [some (.int x), l1] t h Q = Ev d 80 1 [some (.int x), l1] (.int x :: t) h Q := en_iload_n mm80 dX5_requireIndex_0 rfl
theorem i80_1 {d l0 l1 t x h Q} : Ev d 80 1 [l0, l1] (.int x :: t) h Q = if x < 0 then Ev d 80 9 [l0, l1] t h Q else Ev d 80 4 [l0, l1] t h Q := en_if_lt mm80 dX5_requireIndex_1 rfl
theorem i80_4 {d l1 t x h Q} : Ev d 80 4 [some (.int x), l1] t h Q = Ev d 80 5 [some (.int x), l1] (.int x :: t) h Q := en_iload_n mm80 dX5_requireIndex_4 rfl
theorem i80_5 {d l0 t x h Q} : Ev d 80 5 [l0, some (.int x)] t h Q = Ev d 80 6 [l0, some (.int x)] (.int x :: t) h Q := en_iload_n mm80 dX5_requireIndex_5 rfl
theorem i80_6 {d l0 l1 t x y h Q} : Ev d 80 6 [l0, l1] (.int y :: .int x :: t) h Q = if x < y then Ev d 80 19 [l0, l1] t h Q else Ev d 80 9 [l0, l1] t h Q := en_ic_lt mm80 dX5_requireIndex_6 rfl
theorem i80_9 {d l0 l1 h Q} : Ev (d + 10) 80 9 [l0, l1] [] h Q = Q (.inr 2) (alH h) := en_throw mm80 dX5_requireIndex_9 (by decide +kernel) (athr_of (by decide +kernel : look _ exT = some (837, 2)) dX5_requireIndex_12 dX5_requireIndex_13 dX5_requireIndex_15 dX5_requireIndex_18 (by decide +kernel) (by decide +kernel) rfl)
theorem i80_12 {d a l0 l1 t h Q} : Ev d 80 12 [l0, l1] (.ref a :: t) h Q = Ev d 80 13 [l0, l1] (.ref a :: .ref a :: t) h Q := en_dup mm80 dX5_requireIndex_12
theorem i80_13 {d l0 l1 t h Q} : Ev d 80 13 [l0, l1] t h Q = Ev d 80 15 [l0, l1] (litV 18 :: t) h Q := en_ldcS mm80 dX5_requireIndex_13 (by decide +kernel) (by decide +kernel)
theorem i80_19 {d l0 l1 h Q} : Ev d 80 19 [l0, l1] [] h Q = Q (.inl none) h := en_return mm80 dX5_requireIndex_19 rfl
abbrev em81 : MI := (yX5_isWithin, cX5_isWithin, 3, some .boolean, 5, [])
theorem mm81 : mtab[81]? = some em81 := rfl
theorem in81 {d : Nat} {h : AH} {K : AO → AH → Prop} {v0 : Int32} {v1 : Int32} {v2 : Int32} : EvM d 81 [(.int v0), (.int v1), (.int v2)] h K = Ev d 81 0 [some (.int v0), some (.int v1), some (.int v2)] [] h K := evm_in mm81 (of_decide_eq_true rfl) rfl
theorem i81_0 {d l1 l2 t x h Q} : Ev d 81 0 [some (.int x), l1, l2] t h Q = Ev d 81 1 [some (.int x), l1, l2] (.int x :: t) h Q := en_iload_n mm81 dX5_isWithin_0 rfl
theorem i81_1 {d l0 l2 t x h Q} : Ev d 81 1 [l0, some (.int x), l2] t h Q = Ev d 81 2 [l0, some (.int x), l2] (.int x :: t) h Q := en_iload_n mm81 dX5_isWithin_1 rfl
theorem i81_2 {d l0 l1 l2 t x y h Q} : Ev d 81 2 [l0, l1, l2] (.int y :: .int x :: t) h Q = if x < y then Ev d 81 14 [l0, l1, l2] t h Q else Ev d 81 5 [l0, l1, l2] t h Q := en_ic_lt mm81 dX5_isWithin_2 rfl
theorem i81_5 {d l1 l2 t x h Q} : Ev d 81 5 [some (.int x), l1, l2] t h Q = Ev d 81 6 [some (.int x), l1, l2] (.int x :: t) h Q := en_iload_n mm81 dX5_isWithin_5 rfl
theorem i81_6 {d l0 l1 t x h Q} : Ev d 81 6 [l0, l1, some (.int x)] t h Q = Ev d 81 7 [l0, l1, some (.int x)] (.int x :: t) h Q := en_iload_n mm81 dX5_isWithin_6 rfl
theorem i81_7 {d l0 l1 l2 t x y h Q} : Ev d 81 7 [l0, l1, l2] (.int y :: .int x :: t) h Q = if y < x then Ev d 81 14 [l0, l1, l2] t h Q else Ev d 81 10 [l0, l1, l2] t h Q := en_ic_gt mm81 dX5_isWithin_7 rfl
theorem i81_10 {d l0 l1 l2 t h Q} : Ev d 81 10 [l0, l1, l2] t h Q = Ev d 81 11 [l0, l1, l2] (.int 1 :: t) h Q := en_iconst mm81 dX5_isWithin_10 (by decide)
theorem i81_11 {d l0 l1 l2 t h Q} : Ev d 81 11 [l0, l1, l2] t h Q = Ev d 81 15 [l0, l1, l2] t h Q := en_goto mm81 dX5_isWithin_11 rfl
theorem i81_14 {d l0 l1 l2 t h Q} : Ev d 81 14 [l0, l1, l2] t h Q = Ev d 81 15 [l0, l1, l2] (.int 0 :: t) h Q := en_iconst mm81 dX5_isWithin_14 (by decide)
theorem i81_15 {d l0 l1 l2 x h Q} : Ev d 81 15 [l0, l1, l2] [.int x] h Q = (narrow .boolean (.int x) = .int x ∧ Q (.inl (some (.int x))) h) := en_ireturn mm81 dX5_isWithin_15 rfl
abbrev em82 : MI := (yX5_isThickness, cX5_isThickness, 1, some .boolean, 5, [])
theorem mm82 : mtab[82]? = some em82 := rfl
theorem in82 {d : Nat} {h : AH} {K : AO → AH → Prop} {v0 : Int32} : EvM d 82 [(.int v0)] h K = Ev d 82 0 [some (.int v0)] [] h K := evm_in mm82 (of_decide_eq_true rfl) rfl
theorem i82_0 {d t x h Q} : Ev d 82 0 [some (.int x)] t h Q = Ev d 82 1 [some (.int x)] (.int x :: t) h Q := en_iload_n mm82 dX5_isThickness_0 rfl
theorem i82_1 {d l0 t h Q} : Ev d 82 1 [l0] t h Q = Ev d 82 2 [l0] (.int 2 :: t) h Q := en_iconst mm82 dX5_isThickness_1 (by decide)
theorem i82_2 {d l0 t h Q} : Ev d 82 2 [l0] t h Q = Ev d 82 4 [l0] (.int 19 :: t) h Q := en_bipush mm82 dX5_isThickness_2 (by decide)
theorem i82_4 {d l0 x0 x1 x2 h Q} : Ev (d + 1) 82 4 [l0] [x0, x1, x2] h Q = EvM d 81 [x2, x1, x0] h (konN (d + 1) 82 7 [l0] [] Q) := en_staticN mm82 dX5_isThickness_4 (by decide +kernel : ml _ _ = some (0, 81)) (by decide) (rfl : mtab[81]? = some _) (by decide +kernel : npar _ = 3) (of_decide_eq_true rfl) (len_cat (of_decide_eq_true rfl)) rfl rfl rfl
theorem i82_7 {d l0 x h Q} : Ev d 82 7 [l0] [.int x] h Q = (narrow .boolean (.int x) = .int x ∧ Q (.inl (some (.int x))) h) := en_ireturn mm82 dX5_isThickness_7 rfl
abbrev em83 : MI := (yX5_limit, cX5_limit, 3, some .int, 5, [])
theorem mm83 : mtab[83]? = some em83 := rfl
theorem in83 {d : Nat} {h : AH} {K : AO → AH → Prop} {v0 : Int32} {v1 : Int32} {v2 : Int32} : EvM d 83 [(.int v0), (.int v1), (.int v2)] h K = Ev d 83 0 [some (.int v0), some (.int v1), some (.int v2)] [] h K := evm_in mm83 (of_decide_eq_true rfl) rfl
theorem i83_0 {d l1 l2 t x h Q} : Ev d 83 0 [some (.int x), l1, l2] t h Q = Ev d 83 1 [some (.int x), l1, l2] (.int x :: t) h Q := en_iload_n mm83 dX5_limit_0 rfl
theorem i83_1 {d l0 l2 t x h Q} : Ev d 83 1 [l0, some (.int x), l2] t h Q = Ev d 83 2 [l0, some (.int x), l2] (.int x :: t) h Q := en_iload_n mm83 dX5_limit_1 rfl
theorem i83_2 {d l0 l1 l2 t x y h Q} : Ev d 83 2 [l0, l1, l2] (.int y :: .int x :: t) h Q = if y ≤ x then Ev d 83 9 [l0, l1, l2] t h Q else Ev d 83 5 [l0, l1, l2] t h Q := en_ic_ge mm83 dX5_limit_2 rfl
theorem i83_5 {d l0 l2 t x h Q} : Ev d 83 5 [l0, some (.int x), l2] t h Q = Ev d 83 6 [l0, some (.int x), l2] (.int x :: t) h Q := en_iload_n mm83 dX5_limit_5 rfl
theorem i83_6 {d l0 l1 l2 t h Q} : Ev d 83 6 [l0, l1, l2] t h Q = Ev d 83 19 [l0, l1, l2] t h Q := en_goto mm83 dX5_limit_6 rfl
theorem i83_9 {d l1 l2 t x h Q} : Ev d 83 9 [some (.int x), l1, l2] t h Q = Ev d 83 10 [some (.int x), l1, l2] (.int x :: t) h Q := en_iload_n mm83 dX5_limit_9 rfl
theorem i83_10 {d l0 l1 t x h Q} : Ev d 83 10 [l0, l1, some (.int x)] t h Q = Ev d 83 11 [l0, l1, some (.int x)] (.int x :: t) h Q := en_iload_n mm83 dX5_limit_10 rfl
theorem i83_11 {d l0 l1 l2 t x y h Q} : Ev d 83 11 [l0, l1, l2] (.int y :: .int x :: t) h Q = if x ≤ y then Ev d 83 18 [l0, l1, l2] t h Q else Ev d 83 14 [l0, l1, l2] t h Q := en_ic_le mm83 dX5_limit_11 rfl
theorem i83_14 {d l0 l1 t x h Q} : Ev d 83 14 [l0, l1, some (.int x)] t h Q = Ev d 83 15 [l0, l1, some (.int x)] (.int x :: t) h Q := en_iload_n mm83 dX5_limit_14 rfl
theorem i83_15 {d l0 l1 l2 t h Q} : Ev d 83 15 [l0, l1, l2] t h Q = Ev d 83 19 [l0, l1, l2] t h Q := en_goto mm83 dX5_limit_15 rfl
theorem i83_18 {d l1 l2 t x h Q} : Ev d 83 18 [some (.int x), l1, l2] t h Q = Ev d 83 19 [some (.int x), l1, l2] (.int x :: t) h Q := en_iload_n mm83 dX5_limit_18 rfl
theorem i83_19 {d l0 l1 l2 x h Q} : Ev d 83 19 [l0, l1, l2] [.int x] h Q = Q (.inl (some (.int x))) h := en_ireturnI mm83 dX5_limit_19 rfl
abbrev em84 : MI := (yX5_thicknessOf, cX5_thicknessOf, 2, some .int, 5, [])
theorem mm84 : mtab[84]? = some em84 := rfl
theorem in84 {d : Nat} {h : AH} {K : AO → AH → Prop} {v0 : Int32} {v1 : Int32} : EvM d 84 [(.int v0), (.int v1)] h K = Ev d 84 0 [some (.int v0), some (.int v1)] [] h K := evm_in mm84 (of_decide_eq_true rfl) rfl
theorem i84_0 {d l0 t x h Q} : Ev d 84 0 [l0, some (.int x)] t h Q = Ev d 84 1 [l0, some (.int x)] (.int x :: t) h Q := en_iload_n mm84 dX5_thicknessOf_0 rfl
theorem i84_1 {d l0 l1 t x h Q} : Ev d 84 1 [l0, l1] (.int x :: t) h Q = if x ≤ 0 then Ev d 84 17 [l0, l1] t h Q else Ev d 84 4 [l0, l1] t h Q := en_if_le mm84 dX5_thicknessOf_1 rfl
theorem i84_4 {d l0 l1 t h Q} : Ev d 84 4 [l0, l1] t h Q = Ev d 84 6 [l0, l1] (.int 40 :: t) h Q := en_bipush mm84 dX5_thicknessOf_4 (by decide)
theorem i84_6 {d l1 t x h Q} : Ev d 84 6 [some (.int x), l1] t h Q = Ev d 84 7 [some (.int x), l1] (.int x :: t) h Q := en_iload_n mm84 dX5_thicknessOf_6 rfl
theorem i84_7 {d l0 l1 t x y h Q} : Ev d 84 7 [l0, l1] (.int y :: .int x :: t) h Q = Ev d 84 8 [l0, l1] (.int (x * y) :: t) h Q := en_imul mm84 dX5_thicknessOf_7
theorem i84_8 {d l0 t x h Q} : Ev d 84 8 [l0, some (.int x)] t h Q = Ev d 84 9 [l0, some (.int x)] (.int x :: t) h Q := en_iload_n mm84 dX5_thicknessOf_8 rfl
theorem i84_9 {d l0 l1 t h Q} : Ev d 84 9 [l0, l1] t h Q = Ev d 84 10 [l0, l1] (.int 2 :: t) h Q := en_iconst mm84 dX5_thicknessOf_9 (by decide)
theorem i84_10 {d l0 l1 t x y h Q} : Ev d 84 10 [l0, l1] (.int y :: .int x :: t) h Q = (¬ y = 0 ∧ Ev d 84 11 [l0, l1] (.int (x / y) :: t) h Q) := en_idiv mm84 dX5_thicknessOf_10
theorem i84_11 {d l0 l1 t x y h Q} : Ev d 84 11 [l0, l1] (.int y :: .int x :: t) h Q = Ev d 84 12 [l0, l1] (.int (x + y) :: t) h Q := en_iadd mm84 dX5_thicknessOf_11
theorem i84_12 {d l0 t x h Q} : Ev d 84 12 [l0, some (.int x)] t h Q = Ev d 84 13 [l0, some (.int x)] (.int x :: t) h Q := en_iload_n mm84 dX5_thicknessOf_12 rfl
theorem i84_13 {d l0 l1 t x y h Q} : Ev d 84 13 [l0, l1] (.int y :: .int x :: t) h Q = (¬ y = 0 ∧ Ev d 84 14 [l0, l1] (.int (x / y) :: t) h Q) := en_idiv mm84 dX5_thicknessOf_13
theorem i84_14 {d l0 l1 t h Q} : Ev d 84 14 [l0, l1] t h Q = Ev d 84 18 [l0, l1] t h Q := en_goto mm84 dX5_thicknessOf_14 rfl
theorem i84_17 {d l0 l1 t h Q} : Ev d 84 17 [l0, l1] t h Q = Ev d 84 18 [l0, l1] (.int 0 :: t) h Q := en_iconst mm84 dX5_thicknessOf_17 (by decide)
theorem i84_18 {d l0 l1 x h Q} : Ev d 84 18 [l0, l1] [.int x] h Q = Q (.inl (some (.int x))) h := en_ireturnI mm84 dX5_thicknessOf_18 rfl
abbrev em85 : MI := (yX6_init, cX6_init, 1, none, 6, [])
theorem mm85 : mtab[85]? = some em85 := rfl
theorem in85 {d : Nat} {h : AH} {K : AO → AH → Prop} {v0 : Nat} : EvM d 85 [(.ref v0)] h K = Ev d 85 0 [some (.ref v0)] [] h K := evm_in mm85 (of_decide_eq_true rfl) rfl
theorem i85_0 {d a t h Q} : Ev d 85 0 [some (.ref a)] t h Q = Ev d 85 1 [some (.ref a)] (.ref a :: t) h Q := en_aload_n mm85 dX6_init_0 rfl
theorem i85_1 {d a l0 h Q} : Ev (d + 1) 85 1 [l0] [.ref a] h Q = Ev (d + 1) 85 4 [l0] [] h Q := en_objinit mm85 dX6_init_1 (by decide +kernel) (of_decide_eq_true rfl)
theorem i85_4 {d a t h Q} : Ev d 85 4 [some (.ref a)] t h Q = Ev d 85 5 [some (.ref a)] (.ref a :: t) h Q := en_aload_n mm85 dX6_init_4 rfl
theorem i85_5 {d l0 t h Q} : Ev d 85 5 [l0] t h Q = Ev d 85 6 [l0] (.int 0 :: t) h Q := en_iconst mm85 dX6_init_5 (by decide)
theorem i85_6 {d l0 t x h Q} : Ev d 85 6 [l0] (.int x :: t) h Q = (¬ (x < 0 ∨ 60000000 < x.toNatClampNeg) ∧ Ev d 85 9 [l0] (.ref (hN h) :: t) (alA h 14 x.toNatClampNeg) Q) := en_newI2 mm85 dX6_init_6 (by decide +kernel) (by decide +kernel : look _ ckT = some (445, 10))
theorem i85_9 {d a b l0 t h Q} : Ev d 85 9 [l0] (.ref b :: .ref a :: t) h Q = (hk h a = 7 ∧ Ev d 85 12 [l0] t (wF h a 5 (.ref b)) Q) := en_putfield (cj := 6) mm85 dX6_init_9 (by decide +kernel) rfl
theorem i85_12 {d a t h Q} : Ev d 85 12 [some (.ref a)] t h Q = Ev d 85 13 [some (.ref a)] (.ref a :: t) h Q := en_aload_n mm85 dX6_init_12 rfl
theorem i85_13 {d l0 t h Q} : Ev d 85 13 [l0] t h Q = Ev d 85 14 [l0] (.int 0 :: t) h Q := en_iconst mm85 dX6_init_13 (by decide)
theorem i85_14 {d l0 t x h Q} : Ev d 85 14 [l0] (.int x :: t) h Q = (¬ (x < 0 ∨ 60000000 < x.toNatClampNeg) ∧ Ev d 85 16 [l0] (.ref (hN h) :: t) (alA h 10 x.toNatClampNeg) Q) := en_newI mm85 dX6_init_14
theorem i85_16 {d a b l0 t h Q} : Ev d 85 16 [l0] (.ref b :: .ref a :: t) h Q = (hk h a = 7 ∧ Ev d 85 19 [l0] t (wF h a 6 (.ref b)) Q) := en_putfield (cj := 6) mm85 dX6_init_16 (by decide +kernel) rfl
theorem i85_19 {d a t h Q} : Ev d 85 19 [some (.ref a)] t h Q = Ev d 85 20 [some (.ref a)] (.ref a :: t) h Q := en_aload_n mm85 dX6_init_19 rfl
theorem i85_20 {d l0 t h Q} : Ev d 85 20 [l0] t h Q = Ev d 85 21 [l0] (.int 0 :: t) h Q := en_iconst mm85 dX6_init_20 (by decide)
theorem i85_21 {d l0 t x h Q} : Ev d 85 21 [l0] (.int x :: t) h Q = (¬ (x < 0 ∨ 60000000 < x.toNatClampNeg) ∧ Ev d 85 24 [l0] (.ref (hN h) :: t) (alA h 15 x.toNatClampNeg) Q) := en_newL mm85 dX6_init_21 (by decide +kernel : look _ clsT = some (447, 9)) (by decide) rfl
theorem i85_24 {d a b l0 t h Q} : Ev d 85 24 [l0] (.ref b :: .ref a :: t) h Q = (hk h a = 7 ∧ Ev d 85 27 [l0] t (wF h a 7 (.ref b)) Q) := en_putfield (cj := 6) mm85 dX6_init_24 (by decide +kernel) rfl
theorem i85_27 {d a t h Q} : Ev d 85 27 [some (.ref a)] t h Q = Ev d 85 28 [some (.ref a)] (.ref a :: t) h Q := en_aload_n mm85 dX6_init_27 rfl
theorem i85_28 {d l0 t h Q} : Ev d 85 28 [l0] t h Q = Ev d 85 30 [l0] (.int 20 :: t) h Q := en_bipush mm85 dX6_init_28 (by decide)
theorem i85_30 {d l0 t x h Q} : Ev d 85 30 [l0] (.int x :: t) h Q = (¬ (x < 0 ∨ 60000000 < x.toNatClampNeg) ∧ Ev d 85 33 [l0] (.ref (hN h) :: t) (alA h 14 x.toNatClampNeg) Q) := en_newI2 mm85 dX6_init_30 (by decide +kernel) (by decide +kernel : look _ ckT = some (445, 10))
theorem i85_33 {d a b l0 t h Q} : Ev d 85 33 [l0] (.ref b :: .ref a :: t) h Q = (hk h a = 7 ∧ Ev d 85 36 [l0] t (wF h a 8 (.ref b)) Q) := en_putfield (cj := 6) mm85 dX6_init_33 (by decide +kernel) rfl
theorem i85_36 {d a t h Q} : Ev d 85 36 [some (.ref a)] t h Q = Ev d 85 37 [some (.ref a)] (.ref a :: t) h Q := en_aload_n mm85 dX6_init_36 rfl
theorem i85_37 {d l0 t h Q} : Ev d 85 37 [l0] t h Q = Ev d 85 39 [l0] (.int 20 :: t) h Q := en_bipush mm85 dX6_init_37 (by decide)
theorem i85_39 {d l0 t h Q} : Ev d 85 39 [l0] t h Q = Ev d 85 40 [l0] (.int 4 :: t) h Q := en_iconst mm85 dX6_init_39 (by decide)
theorem i85_40 {d l0 t x y h Q} : Ev d 85 40 [l0] (.int x :: .int y :: t) h Q = (¬ (y < 0 ∨ x < 0 ∨ 60000000 < y.toNatClampNeg ∨ 60000000 < x.toNatClampNeg) ∧ Ev d 85 44 [l0] (.ref (hN h) :: t) (alM h y.toNatClampNeg x.toNatClampNeg) Q) := en_newM mm85 dX6_init_40 (by decide +kernel)
theorem i85_44 {d a b l0 t h Q} : Ev d 85 44 [l0] (.ref b :: .ref a :: t) h Q = (hk h a = 7 ∧ Ev d 85 47 [l0] t (wF h a 9 (.ref b)) Q) := en_putfield (cj := 6) mm85 dX6_init_44 (by decide +kernel) rfl
theorem i85_47 {d l0 h Q} : Ev d 85 47 [l0] [] h Q = Q (.inl none) h := en_return mm85 dX6_init_47 rfl
abbrev em86 : MI := (yX6_copy, cX6_copy, 3, some (.object "TemperingLineLaw$Line"), 6, [])
theorem mm86 : mtab[86]? = some em86 := rfl
theorem in86 {d : Nat} {h : AH} {K : AO → AH → Prop} {v0 : Nat} : EvM d 86 [(.ref v0)] h K = Ev d 86 0 [some (.ref v0), none, none] [] h K := evm_in mm86 (of_decide_eq_true rfl) rfl
theorem i86_0 {d l0 l1 l2 t h Q} : Ev d 86 0 [l0, l1, l2] t h Q = Ev d 86 3 [l0, l1, l2] (.ref (hN h) :: t) (alO h 7 10 (dfl 6)) Q := en_new mm86 dX6_copy_0 (by decide +kernel : look _ clsT = some (495, 6)) rfl
theorem i86_3 {d a l0 l1 l2 t h Q} : Ev d 86 3 [l0, l1, l2] (.ref a :: t) h Q = Ev d 86 4 [l0, l1, l2] (.ref a :: .ref a :: t) h Q := en_dup mm86 dX6_copy_3
theorem i86_4 {d a l0 l1 l2 x1 h Q} : Ev (d + 1) 86 4 [l0, l1, l2] [.ref a, x1] h Q = (hk h a = 7 ∧ EvM d 85 [.ref a] h (konN (d + 1) 86 7 [l0, l1, l2] [x1] Q)) := en_specialN mm86 dX6_copy_4 (by decide +kernel : ml _ _ = some (4, 85)) (by decide) (rfl : mtab[85]? = some _) (by decide +kernel : npar _ = 0) rfl (by decide) rfl (of_decide_eq_true rfl) (len_cat (of_decide_eq_true rfl)) rfl rfl rfl
theorem i86_7 {d a l0 l1 l2 t h Q} : Ev d 86 7 [l0, l1, l2] (.ref a :: t) h Q = Ev d 86 8 [nl l0, some (.ref a), l2] t h Q := en_astore_n mm86 dX6_copy_7 (of_decide_eq_true rfl) rfl
theorem i86_8 {d a l0 l2 t h Q} : Ev d 86 8 [l0, some (.ref a), l2] t h Q = Ev d 86 9 [l0, some (.ref a), l2] (.ref a :: t) h Q := en_aload_n mm86 dX6_copy_8 rfl
theorem i86_9 {d a l1 l2 t h Q} : Ev d 86 9 [some (.ref a), l1, l2] t h Q = Ev d 86 10 [some (.ref a), l1, l2] (.ref a :: t) h Q := en_aload_n mm86 dX6_copy_9 rfl
theorem i86_10 {d a l0 l1 l2 t h Q} : Ev d 86 10 [l0, l1, l2] (.ref a :: t) h Q = (hk h a = 7 ∧ Ev d 86 13 [l0, l1, l2] (hF h a 0 :: t) h Q) := en_getfield (cj := 6) mm86 dX6_copy_10 (by decide +kernel)
theorem i86_13 {d a l0 l1 l2 t x h Q} : Ev d 86 13 [l0, l1, l2] (.int x :: .ref a :: t) h Q = (hk h a = 7 ∧ Ev d 86 16 [l0, l1, l2] t (wF h a 0 (.int x)) Q) := en_putfield (cj := 6) mm86 dX6_copy_13 (by decide +kernel) rfl
theorem i86_16 {d a l0 l2 t h Q} : Ev d 86 16 [l0, some (.ref a), l2] t h Q = Ev d 86 17 [l0, some (.ref a), l2] (.ref a :: t) h Q := en_aload_n mm86 dX6_copy_16 rfl
theorem i86_17 {d a l1 l2 t h Q} : Ev d 86 17 [some (.ref a), l1, l2] t h Q = Ev d 86 18 [some (.ref a), l1, l2] (.ref a :: t) h Q := en_aload_n mm86 dX6_copy_17 rfl
theorem i86_18 {d a l0 l1 l2 t h Q} : Ev d 86 18 [l0, l1, l2] (.ref a :: t) h Q = (hk h a = 7 ∧ Ev d 86 21 [l0, l1, l2] (hF h a 1 :: t) h Q) := en_getfield (cj := 6) mm86 dX6_copy_18 (by decide +kernel)
theorem i86_21 {d a l0 l1 l2 t x h Q} : Ev d 86 21 [l0, l1, l2] (.int x :: .ref a :: t) h Q = (hk h a = 7 ∧ Ev d 86 24 [l0, l1, l2] t (wF h a 1 (.int x)) Q) := en_putfield (cj := 6) mm86 dX6_copy_21 (by decide +kernel) rfl
theorem i86_24 {d a l0 l2 t h Q} : Ev d 86 24 [l0, some (.ref a), l2] t h Q = Ev d 86 25 [l0, some (.ref a), l2] (.ref a :: t) h Q := en_aload_n mm86 dX6_copy_24 rfl
theorem i86_25 {d a l1 l2 t h Q} : Ev d 86 25 [some (.ref a), l1, l2] t h Q = Ev d 86 26 [some (.ref a), l1, l2] (.ref a :: t) h Q := en_aload_n mm86 dX6_copy_25 rfl
theorem i86_26 {d a l0 l1 l2 t h Q} : Ev d 86 26 [l0, l1, l2] (.ref a :: t) h Q = (hk h a = 7 ∧ Ev d 86 29 [l0, l1, l2] (hF h a 2 :: t) h Q) := en_getfield (cj := 6) mm86 dX6_copy_26 (by decide +kernel)
theorem i86_29 {d a l0 l1 l2 t x h Q} : Ev d 86 29 [l0, l1, l2] (.int x :: .ref a :: t) h Q = (hk h a = 7 ∧ Ev d 86 32 [l0, l1, l2] t (wF h a 2 (.int x)) Q) := en_putfield (cj := 6) mm86 dX6_copy_29 (by decide +kernel) rfl
theorem i86_32 {d a l0 l2 t h Q} : Ev d 86 32 [l0, some (.ref a), l2] t h Q = Ev d 86 33 [l0, some (.ref a), l2] (.ref a :: t) h Q := en_aload_n mm86 dX6_copy_32 rfl
theorem i86_33 {d a l1 l2 t h Q} : Ev d 86 33 [some (.ref a), l1, l2] t h Q = Ev d 86 34 [some (.ref a), l1, l2] (.ref a :: t) h Q := en_aload_n mm86 dX6_copy_33 rfl
theorem i86_34 {d a l0 l1 l2 t h Q} : Ev d 86 34 [l0, l1, l2] (.ref a :: t) h Q = (hk h a = 7 ∧ Ev d 86 37 [l0, l1, l2] (hF h a 3 :: t) h Q) := en_getfield (cj := 6) mm86 dX6_copy_34 (by decide +kernel)
theorem i86_37 {d a l0 l1 l2 t x h Q} : Ev d 86 37 [l0, l1, l2] (.int x :: .ref a :: t) h Q = (hk h a = 7 ∧ Ev d 86 40 [l0, l1, l2] t (wF h a 3 (.int x)) Q) := en_putfield (cj := 6) mm86 dX6_copy_37 (by decide +kernel) rfl
theorem i86_40 {d a l0 l2 t h Q} : Ev d 86 40 [l0, some (.ref a), l2] t h Q = Ev d 86 41 [l0, some (.ref a), l2] (.ref a :: t) h Q := en_aload_n mm86 dX6_copy_40 rfl
theorem i86_41 {d a l1 l2 t h Q} : Ev d 86 41 [some (.ref a), l1, l2] t h Q = Ev d 86 42 [some (.ref a), l1, l2] (.ref a :: t) h Q := en_aload_n mm86 dX6_copy_41 rfl
theorem i86_42 {d a l0 l1 l2 t h Q} : Ev d 86 42 [l0, l1, l2] (.ref a :: t) h Q = (hk h a = 7 ∧ Ev d 86 45 [l0, l1, l2] (hF h a 4 :: t) h Q) := en_getfield (cj := 6) mm86 dX6_copy_42 (by decide +kernel)
theorem i86_45 {d a b l0 l1 l2 t h Q} : Ev d 86 45 [l0, l1, l2] (.ref b :: .ref a :: t) h Q = (hk h a = 7 ∧ Ev d 86 48 [l0, l1, l2] t (wF h a 4 (.ref b)) Q) := en_putfield (cj := 6) mm86 dX6_copy_45 (by decide +kernel) rfl
theorem i86_48 {d a l0 l2 t h Q} : Ev d 86 48 [l0, some (.ref a), l2] t h Q = Ev d 86 49 [l0, some (.ref a), l2] (.ref a :: t) h Q := en_aload_n mm86 dX6_copy_48 rfl
theorem i86_49 {d a l1 l2 t h Q} : Ev d 86 49 [some (.ref a), l1, l2] t h Q = Ev d 86 50 [some (.ref a), l1, l2] (.ref a :: t) h Q := en_aload_n mm86 dX6_copy_49 rfl
theorem i86_50 {d a l0 l1 l2 t h Q} : Ev d 86 50 [l0, l1, l2] (.ref a :: t) h Q = (hk h a = 7 ∧ Ev d 86 53 [l0, l1, l2] (hF h a 5 :: t) h Q) := en_getfield (cj := 6) mm86 dX6_copy_50 (by decide +kernel)
theorem i86_53 {d a l0 l1 l2 t h Q} : Ev d 86 53 [l0, l1, l2] (.ref a :: t) h Q = ((10 ≤ hk h a ∧ hk h a ≤ 16) ∧ Ev d 86 54 [l0, l1, l2] (.int (nI (hl h a)) :: t) h Q) := en_arraylength mm86 dX6_copy_53
theorem i86_54 {d l0 l1 l2 t x h Q} : Ev d 86 54 [l0, l1, l2] (.int x :: t) h Q = (¬ (x < 0 ∨ 60000000 < x.toNatClampNeg) ∧ Ev d 86 57 [l0, l1, l2] (.ref (hN h) :: t) (alA h 14 x.toNatClampNeg) Q) := en_newI2 mm86 dX6_copy_54 (by decide +kernel) (by decide +kernel : look _ ckT = some (445, 10))
theorem i86_57 {d a b l0 l1 l2 t h Q} : Ev d 86 57 [l0, l1, l2] (.ref b :: .ref a :: t) h Q = (hk h a = 7 ∧ Ev d 86 60 [l0, l1, l2] t (wF h a 5 (.ref b)) Q) := en_putfield (cj := 6) mm86 dX6_copy_57 (by decide +kernel) rfl
theorem i86_60 {d l0 l1 l2 t h Q} : Ev d 86 60 [l0, l1, l2] t h Q = Ev d 86 61 [l0, l1, l2] (.int 0 :: t) h Q := en_iconst mm86 dX6_copy_60 (by decide)
theorem i86_61 {d l0 l1 l2 t x h Q} : Ev d 86 61 [l0, l1, l2] (.int x :: t) h Q = Ev d 86 62 [l0, nl l1, some (.int x)] t h Q := en_istore_n mm86 dX6_copy_61 (of_decide_eq_true rfl) rfl
theorem i86_62 {d l0 l1 t x h Q} : Ev d 86 62 [l0, l1, some (.int x)] t h Q = Ev d 86 63 [l0, l1, some (.int x)] (.int x :: t) h Q := en_iload_n mm86 dX6_copy_62 rfl
theorem i86_63 {d a l1 l2 t h Q} : Ev d 86 63 [some (.ref a), l1, l2] t h Q = Ev d 86 64 [some (.ref a), l1, l2] (.ref a :: t) h Q := en_aload_n mm86 dX6_copy_63 rfl
theorem i86_64 {d a l0 l1 l2 t h Q} : Ev d 86 64 [l0, l1, l2] (.ref a :: t) h Q = (hk h a = 7 ∧ Ev d 86 67 [l0, l1, l2] (hF h a 5 :: t) h Q) := en_getfield (cj := 6) mm86 dX6_copy_64 (by decide +kernel)
theorem i86_67 {d a l0 l1 l2 t h Q} : Ev d 86 67 [l0, l1, l2] (.ref a :: t) h Q = ((10 ≤ hk h a ∧ hk h a ≤ 16) ∧ Ev d 86 68 [l0, l1, l2] (.int (nI (hl h a)) :: t) h Q) := en_arraylength mm86 dX6_copy_67
theorem i86_68 {d l0 l1 l2 t x y h Q} : Ev d 86 68 [l0, l1, l2] (.int y :: .int x :: t) h Q = if y ≤ x then Ev d 86 95 [l0, l1, l2] t h Q else Ev d 86 71 [l0, l1, l2] t h Q := en_ic_ge mm86 dX6_copy_68 rfl
theorem i86_71 {d a l0 l2 t h Q} : Ev d 86 71 [l0, some (.ref a), l2] t h Q = Ev d 86 72 [l0, some (.ref a), l2] (.ref a :: t) h Q := en_aload_n mm86 dX6_copy_71 rfl
theorem i86_72 {d a l0 l1 l2 t h Q} : Ev d 86 72 [l0, l1, l2] (.ref a :: t) h Q = (hk h a = 7 ∧ Ev d 86 75 [l0, l1, l2] (hF h a 5 :: t) h Q) := en_getfield (cj := 6) mm86 dX6_copy_72 (by decide +kernel)
theorem i86_75 {d l0 l1 t x h Q} : Ev d 86 75 [l0, l1, some (.int x)] t h Q = Ev d 86 76 [l0, l1, some (.int x)] (.int x :: t) h Q := en_iload_n mm86 dX6_copy_75 rfl
theorem i86_76 {d a l1 l2 t h Q} : Ev d 86 76 [some (.ref a), l1, l2] t h Q = Ev d 86 77 [some (.ref a), l1, l2] (.ref a :: t) h Q := en_aload_n mm86 dX6_copy_76 rfl
theorem i86_77 {d a l0 l1 l2 t h Q} : Ev d 86 77 [l0, l1, l2] (.ref a :: t) h Q = (hk h a = 7 ∧ Ev d 86 80 [l0, l1, l2] (hF h a 5 :: t) h Q) := en_getfield (cj := 6) mm86 dX6_copy_77 (by decide +kernel)
theorem i86_80 {d l0 l1 t x h Q} : Ev d 86 80 [l0, l1, some (.int x)] t h Q = Ev d 86 81 [l0, l1, some (.int x)] (.int x :: t) h Q := en_iload_n mm86 dX6_copy_80 rfl
theorem i86_81 {d a j l0 l1 l2 t h Q} : Ev d 86 81 [l0, l1, l2] (.int j :: .ref a :: t) h Q = ((13 ≤ hk h a ∧ hk h a ≤ 16) ∧ inb j (hl h a) ∧ Ev d 86 82 [l0, l1, l2] (orv (hR h a j.toNatClampNeg) :: t) h Q) := en_aaload mm86 dX6_copy_81
theorem i86_82 {d a l0 l1 l2 x0 x1 h Q} : Ev (d + 1) 86 82 [l0, l1, l2] [.ref a, x0, x1] h Q = (hk h a = 10 ∧ Ev (d + 1) 86 85 [l0, l1, l2] [.ref (hN h), x0, x1] (wA (alA h 10 (hl h a)) (hN h) (hA h a)) Q) := en_cloneI mm86 dX6_copy_82 (by decide +kernel) (of_decide_eq_true rfl)
theorem i86_85 {d a l0 l1 l2 t h Q} : Ev d 86 85 [l0, l1, l2] (.ref a :: t) h Q = (hk h a = 10 ∧ Ev d 86 88 [l0, l1, l2] (.ref a :: t) h Q) := en_cast mm86 dX6_copy_85 (by decide +kernel : look _ ckT = some (445, 10))
theorem i86_88 {d l0 l1 l2 t h Q j v a} (h0 : hk h a = 14) : Ev d 86 88 [l0, l1, l2] (.ref v :: .int j :: .ref a :: t) h Q = (hk h v = 10 ∧ inb j (hl h a) ∧ Ev d 86 89 [l0, l1, l2] t (wR h a (va_up (hR h a) j.toNatClampNeg (some v))) Q) := en_aastoreK mm86 dX6_copy_88 (by decide) h0
theorem i86_89 {d l0 l1 t x h Q} : Ev d 86 89 [l0, l1, some (.int x)] t h Q = Ev d 86 92 [l0, nl l1, some (.int (x + 1))] t h Q := en_iinc mm86 dX6_copy_89 rfl (by decide) rfl
theorem i86_92 {d l0 l1 l2 t h Q} : Ev d 86 92 [l0, l1, l2] t h Q = Ev d 86 62 [l0, l1, l2] t h Q := en_goto mm86 dX6_copy_92 rfl
theorem i86_95 {d a l0 l2 t h Q} : Ev d 86 95 [l0, some (.ref a), l2] t h Q = Ev d 86 96 [l0, some (.ref a), l2] (.ref a :: t) h Q := en_aload_n mm86 dX6_copy_95 rfl
theorem i86_96 {d a l1 l2 t h Q} : Ev d 86 96 [some (.ref a), l1, l2] t h Q = Ev d 86 97 [some (.ref a), l1, l2] (.ref a :: t) h Q := en_aload_n mm86 dX6_copy_96 rfl
theorem i86_97 {d a l0 l1 l2 t h Q} : Ev d 86 97 [l0, l1, l2] (.ref a :: t) h Q = (hk h a = 7 ∧ Ev d 86 100 [l0, l1, l2] (hF h a 6 :: t) h Q) := en_getfield (cj := 6) mm86 dX6_copy_97 (by decide +kernel)
theorem i86_100 {d a l0 l1 l2 x0 h Q} : Ev (d + 1) 86 100 [l0, l1, l2] [.ref a, x0] h Q = (hk h a = 10 ∧ Ev (d + 1) 86 103 [l0, l1, l2] [.ref (hN h), x0] (wA (alA h 10 (hl h a)) (hN h) (hA h a)) Q) := en_cloneI mm86 dX6_copy_100 (by decide +kernel) (of_decide_eq_true rfl)
theorem i86_103 {d a l0 l1 l2 t h Q} : Ev d 86 103 [l0, l1, l2] (.ref a :: t) h Q = (hk h a = 10 ∧ Ev d 86 106 [l0, l1, l2] (.ref a :: t) h Q) := en_cast mm86 dX6_copy_103 (by decide +kernel : look _ ckT = some (445, 10))
theorem i86_106 {d a b l0 l1 l2 t h Q} : Ev d 86 106 [l0, l1, l2] (.ref b :: .ref a :: t) h Q = (hk h a = 7 ∧ Ev d 86 109 [l0, l1, l2] t (wF h a 6 (.ref b)) Q) := en_putfield (cj := 6) mm86 dX6_copy_106 (by decide +kernel) rfl
theorem i86_109 {d a l0 l2 t h Q} : Ev d 86 109 [l0, some (.ref a), l2] t h Q = Ev d 86 110 [l0, some (.ref a), l2] (.ref a :: t) h Q := en_aload_n mm86 dX6_copy_109 rfl
theorem i86_110 {d a l1 l2 t h Q} : Ev d 86 110 [some (.ref a), l1, l2] t h Q = Ev d 86 111 [some (.ref a), l1, l2] (.ref a :: t) h Q := en_aload_n mm86 dX6_copy_110 rfl
theorem i86_111 {d a l0 l1 l2 t h Q} : Ev d 86 111 [l0, l1, l2] (.ref a :: t) h Q = (hk h a = 7 ∧ Ev d 86 114 [l0, l1, l2] (hF h a 7 :: t) h Q) := en_getfield (cj := 6) mm86 dX6_copy_111 (by decide +kernel)
theorem i86_114 {d a l0 l1 l2 t h Q} : Ev d 86 114 [l0, l1, l2] (.ref a :: t) h Q = ((10 ≤ hk h a ∧ hk h a ≤ 16) ∧ Ev d 86 115 [l0, l1, l2] (.int (nI (hl h a)) :: t) h Q) := en_arraylength mm86 dX6_copy_114
theorem i86_115 {d l0 l1 l2 t x h Q} : Ev d 86 115 [l0, l1, l2] (.int x :: t) h Q = (¬ (x < 0 ∨ 60000000 < x.toNatClampNeg) ∧ Ev d 86 118 [l0, l1, l2] (.ref (hN h) :: t) (alA h 15 x.toNatClampNeg) Q) := en_newL mm86 dX6_copy_115 (by decide +kernel : look _ clsT = some (447, 9)) (by decide) rfl
theorem i86_118 {d a b l0 l1 l2 t h Q} : Ev d 86 118 [l0, l1, l2] (.ref b :: .ref a :: t) h Q = (hk h a = 7 ∧ Ev d 86 121 [l0, l1, l2] t (wF h a 7 (.ref b)) Q) := en_putfield (cj := 6) mm86 dX6_copy_118 (by decide +kernel) rfl
theorem i86_121 {d l0 l1 l2 t h Q} : Ev d 86 121 [l0, l1, l2] t h Q = Ev d 86 122 [l0, l1, l2] (.int 0 :: t) h Q := en_iconst mm86 dX6_copy_121 (by decide)
theorem i86_122 {d l0 l1 l2 t x h Q} : Ev d 86 122 [l0, l1, l2] (.int x :: t) h Q = Ev d 86 123 [l0, nl l1, some (.int x)] t h Q := en_istore_n mm86 dX6_copy_122 (of_decide_eq_true rfl) rfl
theorem i86_123 {d l0 l1 t x h Q} : Ev d 86 123 [l0, l1, some (.int x)] t h Q = Ev d 86 124 [l0, l1, some (.int x)] (.int x :: t) h Q := en_iload_n mm86 dX6_copy_123 rfl
theorem i86_124 {d a l1 l2 t h Q} : Ev d 86 124 [some (.ref a), l1, l2] t h Q = Ev d 86 125 [some (.ref a), l1, l2] (.ref a :: t) h Q := en_aload_n mm86 dX6_copy_124 rfl
theorem i86_125 {d a l0 l1 l2 t h Q} : Ev d 86 125 [l0, l1, l2] (.ref a :: t) h Q = (hk h a = 7 ∧ Ev d 86 128 [l0, l1, l2] (hF h a 7 :: t) h Q) := en_getfield (cj := 6) mm86 dX6_copy_125 (by decide +kernel)
theorem i86_128 {d a l0 l1 l2 t h Q} : Ev d 86 128 [l0, l1, l2] (.ref a :: t) h Q = ((10 ≤ hk h a ∧ hk h a ≤ 16) ∧ Ev d 86 129 [l0, l1, l2] (.int (nI (hl h a)) :: t) h Q) := en_arraylength mm86 dX6_copy_128
theorem i86_129 {d l0 l1 l2 t x y h Q} : Ev d 86 129 [l0, l1, l2] (.int y :: .int x :: t) h Q = if y ≤ x then Ev d 86 153 [l0, l1, l2] t h Q else Ev d 86 132 [l0, l1, l2] t h Q := en_ic_ge mm86 dX6_copy_129 rfl
theorem i86_132 {d a l0 l2 t h Q} : Ev d 86 132 [l0, some (.ref a), l2] t h Q = Ev d 86 133 [l0, some (.ref a), l2] (.ref a :: t) h Q := en_aload_n mm86 dX6_copy_132 rfl
theorem i86_133 {d a l0 l1 l2 t h Q} : Ev d 86 133 [l0, l1, l2] (.ref a :: t) h Q = (hk h a = 7 ∧ Ev d 86 136 [l0, l1, l2] (hF h a 7 :: t) h Q) := en_getfield (cj := 6) mm86 dX6_copy_133 (by decide +kernel)
theorem i86_136 {d l0 l1 t x h Q} : Ev d 86 136 [l0, l1, some (.int x)] t h Q = Ev d 86 137 [l0, l1, some (.int x)] (.int x :: t) h Q := en_iload_n mm86 dX6_copy_136 rfl
theorem i86_137 {d a l1 l2 t h Q} : Ev d 86 137 [some (.ref a), l1, l2] t h Q = Ev d 86 138 [some (.ref a), l1, l2] (.ref a :: t) h Q := en_aload_n mm86 dX6_copy_137 rfl
theorem i86_138 {d a l0 l1 l2 t h Q} : Ev d 86 138 [l0, l1, l2] (.ref a :: t) h Q = (hk h a = 7 ∧ Ev d 86 141 [l0, l1, l2] (hF h a 7 :: t) h Q) := en_getfield (cj := 6) mm86 dX6_copy_138 (by decide +kernel)
theorem i86_141 {d l0 l1 t x h Q} : Ev d 86 141 [l0, l1, some (.int x)] t h Q = Ev d 86 142 [l0, l1, some (.int x)] (.int x :: t) h Q := en_iload_n mm86 dX6_copy_141 rfl
theorem i86_142 {d a j l0 l1 l2 t h Q} : Ev d 86 142 [l0, l1, l2] (.int j :: .ref a :: t) h Q = ((13 ≤ hk h a ∧ hk h a ≤ 16) ∧ inb j (hl h a) ∧ Ev d 86 143 [l0, l1, l2] (orv (hR h a j.toNatClampNeg) :: t) h Q) := en_aaload mm86 dX6_copy_142
theorem i86_143 {d a l0 l1 l2 x1 x2 h Q} : Ev (d + 1) 86 143 [l0, l1, l2] [.ref a, x1, x2] h Q = (hk h a = 20 ∧ EvM d 104 [.ref a] h (konN (d + 1) 86 146 [l0, l1, l2] [x1, x2] Q)) := en_virtualN mm86 dX6_copy_143 (by decide +kernel : ml _ _ = some (2, 104)) (by decide) (rfl : mtab[104]? = some _) (by decide +kernel : npar _ = 0) rfl (by decide) rfl (of_decide_eq_true rfl) (len_cat (of_decide_eq_true rfl)) rfl rfl rfl
theorem i86_146 {d l0 l1 l2 t h Q j v a} (h0 : hk h a = 15) : Ev d 86 146 [l0, l1, l2] (.ref v :: .int j :: .ref a :: t) h Q = (hk h v = 20 ∧ inb j (hl h a) ∧ Ev d 86 147 [l0, l1, l2] t (wR h a (va_up (hR h a) j.toNatClampNeg (some v))) Q) := en_aastoreK mm86 dX6_copy_146 (by decide) h0
theorem i86_147 {d l0 l1 t x h Q} : Ev d 86 147 [l0, l1, some (.int x)] t h Q = Ev d 86 150 [l0, nl l1, some (.int (x + 1))] t h Q := en_iinc mm86 dX6_copy_147 rfl (by decide) rfl
theorem i86_150 {d l0 l1 l2 t h Q} : Ev d 86 150 [l0, l1, l2] t h Q = Ev d 86 123 [l0, l1, l2] t h Q := en_goto mm86 dX6_copy_150 rfl
theorem i86_153 {d a l0 l2 t h Q} : Ev d 86 153 [l0, some (.ref a), l2] t h Q = Ev d 86 154 [l0, some (.ref a), l2] (.ref a :: t) h Q := en_aload_n mm86 dX6_copy_153 rfl
theorem i86_154 {d a l1 l2 t h Q} : Ev d 86 154 [some (.ref a), l1, l2] t h Q = Ev d 86 155 [some (.ref a), l1, l2] (.ref a :: t) h Q := en_aload_n mm86 dX6_copy_154 rfl
theorem i86_155 {d a l0 l1 l2 t h Q} : Ev d 86 155 [l0, l1, l2] (.ref a :: t) h Q = (hk h a = 7 ∧ Ev d 86 158 [l0, l1, l2] (hF h a 8 :: t) h Q) := en_getfield (cj := 6) mm86 dX6_copy_155 (by decide +kernel)
theorem i86_158 {d a b l0 l1 l2 t h Q} : Ev d 86 158 [l0, l1, l2] (.ref b :: .ref a :: t) h Q = (hk h a = 7 ∧ Ev d 86 161 [l0, l1, l2] t (wF h a 8 (.ref b)) Q) := en_putfield (cj := 6) mm86 dX6_copy_158 (by decide +kernel) rfl
theorem i86_161 {d l0 l1 l2 t h Q} : Ev d 86 161 [l0, l1, l2] t h Q = Ev d 86 162 [l0, l1, l2] (.int 0 :: t) h Q := en_iconst mm86 dX6_copy_161 (by decide)
theorem i86_162 {d l0 l1 l2 t x h Q} : Ev d 86 162 [l0, l1, l2] (.int x :: t) h Q = Ev d 86 163 [l0, nl l1, some (.int x)] t h Q := en_istore_n mm86 dX6_copy_162 (of_decide_eq_true rfl) rfl
theorem i86_163 {d l0 l1 t x h Q} : Ev d 86 163 [l0, l1, some (.int x)] t h Q = Ev d 86 164 [l0, l1, some (.int x)] (.int x :: t) h Q := en_iload_n mm86 dX6_copy_163 rfl
theorem i86_164 {d l0 l1 l2 t h Q} : Ev d 86 164 [l0, l1, l2] t h Q = Ev d 86 166 [l0, l1, l2] (.int 20 :: t) h Q := en_bipush mm86 dX6_copy_164 (by decide)
theorem i86_166 {d l0 l1 l2 t x y h Q} : Ev d 86 166 [l0, l1, l2] (.int y :: .int x :: t) h Q = if y ≤ x then Ev d 86 193 [l0, l1, l2] t h Q else Ev d 86 169 [l0, l1, l2] t h Q := en_ic_ge mm86 dX6_copy_166 rfl
theorem i86_169 {d a l0 l2 t h Q} : Ev d 86 169 [l0, some (.ref a), l2] t h Q = Ev d 86 170 [l0, some (.ref a), l2] (.ref a :: t) h Q := en_aload_n mm86 dX6_copy_169 rfl
theorem i86_170 {d a l0 l1 l2 t h Q} : Ev d 86 170 [l0, l1, l2] (.ref a :: t) h Q = (hk h a = 7 ∧ Ev d 86 173 [l0, l1, l2] (hF h a 9 :: t) h Q) := en_getfield (cj := 6) mm86 dX6_copy_170 (by decide +kernel)
theorem i86_173 {d l0 l1 t x h Q} : Ev d 86 173 [l0, l1, some (.int x)] t h Q = Ev d 86 174 [l0, l1, some (.int x)] (.int x :: t) h Q := en_iload_n mm86 dX6_copy_173 rfl
theorem i86_174 {d a l1 l2 t h Q} : Ev d 86 174 [some (.ref a), l1, l2] t h Q = Ev d 86 175 [some (.ref a), l1, l2] (.ref a :: t) h Q := en_aload_n mm86 dX6_copy_174 rfl
theorem i86_175 {d a l0 l1 l2 t h Q} : Ev d 86 175 [l0, l1, l2] (.ref a :: t) h Q = (hk h a = 7 ∧ Ev d 86 178 [l0, l1, l2] (hF h a 9 :: t) h Q) := en_getfield (cj := 6) mm86 dX6_copy_175 (by decide +kernel)
theorem i86_178 {d l0 l1 t x h Q} : Ev d 86 178 [l0, l1, some (.int x)] t h Q = Ev d 86 179 [l0, l1, some (.int x)] (.int x :: t) h Q := en_iload_n mm86 dX6_copy_178 rfl
theorem i86_179 {d a j l0 l1 l2 t h Q} : Ev d 86 179 [l0, l1, l2] (.int j :: .ref a :: t) h Q = ((13 ≤ hk h a ∧ hk h a ≤ 16) ∧ inb j (hl h a) ∧ Ev d 86 180 [l0, l1, l2] (orv (hR h a j.toNatClampNeg) :: t) h Q) := en_aaload mm86 dX6_copy_179
theorem i86_180 {d a l0 l1 l2 x0 x1 h Q} : Ev (d + 1) 86 180 [l0, l1, l2] [.ref a, x0, x1] h Q = (hk h a = 10 ∧ Ev (d + 1) 86 183 [l0, l1, l2] [.ref (hN h), x0, x1] (wA (alA h 10 (hl h a)) (hN h) (hA h a)) Q) := en_cloneI mm86 dX6_copy_180 (by decide +kernel) (of_decide_eq_true rfl)
theorem i86_183 {d a l0 l1 l2 t h Q} : Ev d 86 183 [l0, l1, l2] (.ref a :: t) h Q = (hk h a = 10 ∧ Ev d 86 186 [l0, l1, l2] (.ref a :: t) h Q) := en_cast mm86 dX6_copy_183 (by decide +kernel : look _ ckT = some (445, 10))
theorem i86_186 {d l0 l1 l2 t h Q j v a} (h0 : hk h a = 14) : Ev d 86 186 [l0, l1, l2] (.ref v :: .int j :: .ref a :: t) h Q = (hk h v = 10 ∧ inb j (hl h a) ∧ Ev d 86 187 [l0, l1, l2] t (wR h a (va_up (hR h a) j.toNatClampNeg (some v))) Q) := en_aastoreK mm86 dX6_copy_186 (by decide) h0
theorem i86_187 {d l0 l1 t x h Q} : Ev d 86 187 [l0, l1, some (.int x)] t h Q = Ev d 86 190 [l0, nl l1, some (.int (x + 1))] t h Q := en_iinc mm86 dX6_copy_187 rfl (by decide) rfl
theorem i86_190 {d l0 l1 l2 t h Q} : Ev d 86 190 [l0, l1, l2] t h Q = Ev d 86 163 [l0, l1, l2] t h Q := en_goto mm86 dX6_copy_190 rfl
theorem i86_193 {d a l0 l2 t h Q} : Ev d 86 193 [l0, some (.ref a), l2] t h Q = Ev d 86 194 [l0, some (.ref a), l2] (.ref a :: t) h Q := en_aload_n mm86 dX6_copy_193 rfl
theorem i86_194 {d l0 l1 l2 x h Q} : Ev d 86 194 [l0, l1, l2] [x] h Q = (isR x = true ∧ Q (.inl (some x)) h) := en_areturn mm86 dX6_copy_194 rfl rfl
abbrev em87 : MI := (yX6_at, cX6_at, 3, some .int, 6, [])
theorem mm87 : mtab[87]? = some em87 := rfl
theorem in87 {d : Nat} {h : AH} {K : AO → AH → Prop} {v0 : Nat} {v1 : Int32} : EvM d 87 [(.ref v0), (.int v1)] h K = Ev d 87 0 [some (.ref v0), some (.int v1), none] [] h K := evm_in mm87 (of_decide_eq_true rfl) rfl
theorem i87_0 {d l0 l1 l2 t h Q} : Ev d 87 0 [l0, l1, l2] t h Q = Ev d 87 1 [l0, l1, l2] (.int 0 :: t) h Q := en_iconst mm87 dX6_at_0 (by decide)
theorem i87_1 {d l0 l1 l2 t x h Q} : Ev d 87 1 [l0, l1, l2] (.int x :: t) h Q = Ev d 87 2 [l0, nl l1, some (.int x)] t h Q := en_istore_n mm87 dX6_at_1 (of_decide_eq_true rfl) rfl
theorem i87_2 {d l0 l1 t x h Q} : Ev d 87 2 [l0, l1, some (.int x)] t h Q = Ev d 87 3 [l0, l1, some (.int x)] (.int x :: t) h Q := en_iload_n mm87 dX6_at_2 rfl
theorem i87_3 {d a l1 l2 t h Q} : Ev d 87 3 [some (.ref a), l1, l2] t h Q = Ev d 87 4 [some (.ref a), l1, l2] (.ref a :: t) h Q := en_aload_n mm87 dX6_at_3 rfl
theorem i87_4 {d a l0 l1 l2 t h Q} : Ev d 87 4 [l0, l1, l2] (.ref a :: t) h Q = (hk h a = 7 ∧ Ev d 87 7 [l0, l1, l2] (hF h a 7 :: t) h Q) := en_getfield (cj := 6) mm87 dX6_at_4 (by decide +kernel)
theorem i87_7 {d a l0 l1 l2 t h Q} : Ev d 87 7 [l0, l1, l2] (.ref a :: t) h Q = ((10 ≤ hk h a ∧ hk h a ≤ 16) ∧ Ev d 87 8 [l0, l1, l2] (.int (nI (hl h a)) :: t) h Q) := en_arraylength mm87 dX6_at_7
theorem i87_8 {d l0 l1 l2 t x y h Q} : Ev d 87 8 [l0, l1, l2] (.int y :: .int x :: t) h Q = if y ≤ x then Ev d 87 32 [l0, l1, l2] t h Q else Ev d 87 11 [l0, l1, l2] t h Q := en_ic_ge mm87 dX6_at_8 rfl
theorem i87_11 {d a l1 l2 t h Q} : Ev d 87 11 [some (.ref a), l1, l2] t h Q = Ev d 87 12 [some (.ref a), l1, l2] (.ref a :: t) h Q := en_aload_n mm87 dX6_at_11 rfl
theorem i87_12 {d a l0 l1 l2 t h Q} : Ev d 87 12 [l0, l1, l2] (.ref a :: t) h Q = (hk h a = 7 ∧ Ev d 87 15 [l0, l1, l2] (hF h a 7 :: t) h Q) := en_getfield (cj := 6) mm87 dX6_at_12 (by decide +kernel)
theorem i87_15 {d l0 l1 t x h Q} : Ev d 87 15 [l0, l1, some (.int x)] t h Q = Ev d 87 16 [l0, l1, some (.int x)] (.int x :: t) h Q := en_iload_n mm87 dX6_at_15 rfl
theorem i87_16 {d a j l0 l1 l2 t h Q} : Ev d 87 16 [l0, l1, l2] (.int j :: .ref a :: t) h Q = ((13 ≤ hk h a ∧ hk h a ≤ 16) ∧ inb j (hl h a) ∧ Ev d 87 17 [l0, l1, l2] (orv (hR h a j.toNatClampNeg) :: t) h Q) := en_aaload mm87 dX6_at_16
theorem i87_17 {d a l0 l1 l2 t h Q} : Ev d 87 17 [l0, l1, l2] (.ref a :: t) h Q = (hk h a = 20 ∧ Ev d 87 20 [l0, l1, l2] (hF h a 3 :: t) h Q) := en_getfield (cj := 9) mm87 dX6_at_17 (by decide +kernel)
theorem i87_20 {d l0 l2 t x h Q} : Ev d 87 20 [l0, some (.int x), l2] t h Q = Ev d 87 21 [l0, some (.int x), l2] (.int x :: t) h Q := en_iload_n mm87 dX6_at_20 rfl
theorem i87_21 {d l0 l1 l2 t x y h Q} : Ev d 87 21 [l0, l1, l2] (.int y :: .int x :: t) h Q = if x = y then Ev d 87 24 [l0, l1, l2] t h Q else Ev d 87 26 [l0, l1, l2] t h Q := en_ic_ne mm87 dX6_at_21 rfl
theorem i87_24 {d l0 l1 t x h Q} : Ev d 87 24 [l0, l1, some (.int x)] t h Q = Ev d 87 25 [l0, l1, some (.int x)] (.int x :: t) h Q := en_iload_n mm87 dX6_at_24 rfl
theorem i87_25 {d l0 l1 l2 x h Q} : Ev d 87 25 [l0, l1, l2] [.int x] h Q = Q (.inl (some (.int x))) h := en_ireturnI mm87 dX6_at_25 rfl
theorem i87_26 {d l0 l1 t x h Q} : Ev d 87 26 [l0, l1, some (.int x)] t h Q = Ev d 87 29 [l0, nl l1, some (.int (x + 1))] t h Q := en_iinc mm87 dX6_at_26 rfl (by decide) rfl
theorem i87_29 {d l0 l1 l2 t h Q} : Ev d 87 29 [l0, l1, l2] t h Q = Ev d 87 2 [l0, l1, l2] t h Q := en_goto mm87 dX6_at_29 rfl
theorem i87_32 {d l0 l1 l2 t h Q} : Ev d 87 32 [l0, l1, l2] t h Q = Ev d 87 33 [l0, l1, l2] (.int (-1) :: t) h Q := en_iconst mm87 dX6_at_32 (by decide)
theorem i87_33 {d l0 l1 l2 x h Q} : Ev d 87 33 [l0, l1, l2] [.int x] h Q = Q (.inl (some (.int x))) h := en_ireturnI mm87 dX6_at_33 rfl
abbrev em88 : MI := (yX6_share, cX6_share, 4, some .int, 6, [])
theorem mm88 : mtab[88]? = some em88 := rfl
theorem in88 {d : Nat} {h : AH} {K : AO → AH → Prop} {v0 : Nat} {v1 : Int32} {v2 : Int32} {v3 : Int32} : EvM d 88 [(.ref v0), (.int v1), (.int v2), (.int v3)] h K = Ev d 88 0 [some (.ref v0), some (.int v1), some (.int v2), some (.int v3)] [] h K := evm_in mm88 (of_decide_eq_true rfl) rfl
theorem i88_0 {d a l1 l2 l3 t h Q} : Ev d 88 0 [some (.ref a), l1, l2, l3] t h Q = Ev d 88 1 [some (.ref a), l1, l2, l3] (.ref a :: t) h Q := en_aload_n mm88 dX6_share_0 rfl
theorem i88_1 {d a l0 l1 l2 l3 t h Q} : Ev d 88 1 [l0, l1, l2, l3] (.ref a :: t) h Q = (hk h a = 7 ∧ Ev d 88 4 [l0, l1, l2, l3] (hF h a 4 :: t) h Q) := en_getfield (cj := 6) mm88 dX6_share_1 (by decide +kernel)
theorem i88_4_N {d l0 l1 l2 l3 t h Q} : Ev d 88 4 [l0, l1, l2, l3] (.null :: t) h Q = Ev d 88 7 [l0, l1, l2, l3] t h Q := en_ifnonnullN mm88 dX6_share_4 (by decide : tgt? _ _ = some 15)
theorem i88_4_R {d a l0 l1 l2 l3 t h Q} : Ev d 88 4 [l0, l1, l2, l3] (.ref a :: t) h Q = Ev d 88 15 [l0, l1, l2, l3] t h Q := en_ifnonnullR mm88 dX6_share_4 (by decide : tgt? _ _ = some 15)
theorem i88_7 {d l0 l1 l2 l3 t h Q} : Ev d 88 7 [l0, l1, l2, l3] t h Q = Ev d 88 10 [l0, l1, l2, l3] (.int 400 :: t) h Q := en_sipush mm88 dX6_share_7 (by decide)
theorem i88_10 {d l0 l2 l3 t x h Q} : Ev d 88 10 [l0, some (.int x), l2, l3] t h Q = Ev d 88 11 [l0, some (.int x), l2, l3] (.int x :: t) h Q := en_iload_n mm88 dX6_share_10 rfl
theorem i88_11 {d l0 l1 l2 l3 t x y h Q} : Ev d 88 11 [l0, l1, l2, l3] (.int y :: .int x :: t) h Q = (¬ y = 0 ∧ Ev d 88 12 [l0, l1, l2, l3] (.int (x / y) :: t) h Q) := en_idiv mm88 dX6_share_11
theorem i88_12 {d l0 l1 l2 l3 t h Q} : Ev d 88 12 [l0, l1, l2, l3] t h Q = Ev d 88 51 [l0, l1, l2, l3] t h Q := en_goto mm88 dX6_share_12 rfl
theorem i88_15 {d l0 l1 l2 l3 t h Q} : Ev d 88 15 [l0, l1, l2, l3] t h Q = Ev d 88 16 [l0, l1, l2, l3] (.long 0 :: t) h Q := en_lconst mm88 dX6_share_15 (by decide)
theorem i88_16 {d l0 l1 l2 l3 t h Q} : Ev d 88 16 [l0, l1, l2, l3] t h Q = Ev d 88 19 [l0, l1, l2, l3] (.long 1000 :: t) h Q := en_ldc2 mm88 dX6_share_16 (by decide +kernel : look _ cstLT = some (550, 1000)) (by decide)
theorem i88_19 {d a l1 l2 l3 t h Q} : Ev d 88 19 [some (.ref a), l1, l2, l3] t h Q = Ev d 88 20 [some (.ref a), l1, l2, l3] (.ref a :: t) h Q := en_aload_n mm88 dX6_share_19 rfl
theorem i88_20 {d a l0 l1 l2 l3 t h Q} : Ev d 88 20 [l0, l1, l2, l3] (.ref a :: t) h Q = (hk h a = 7 ∧ Ev d 88 23 [l0, l1, l2, l3] (hF h a 4 :: t) h Q) := en_getfield (cj := 6) mm88 dX6_share_20 (by decide +kernel)
theorem i88_23 {d l0 l1 l2 l3 t h Q} : Ev d 88 23 [l0, l1, l2, l3] t h Q = Ev d 88 24 [l0, l1, l2, l3] (.int 3 :: t) h Q := en_iconst mm88 dX6_share_23 (by decide)
theorem i88_24 {d l0 l1 l2 l3 t x h Q} : Ev d 88 24 [l0, l1, l2, l3] (.int x :: t) h Q = (¬ (x < 0 ∨ 60000000 < x.toNatClampNeg) ∧ Ev d 88 26 [l0, l1, l2, l3] (.ref (hN h) :: t) (alA h 12 x.toNatClampNeg) Q) := en_newJ mm88 dX6_share_24
theorem i88_26 {d a l0 l1 l2 l3 t h Q} : Ev d 88 26 [l0, l1, l2, l3] (.ref a :: t) h Q = Ev d 88 27 [l0, l1, l2, l3] (.ref a :: .ref a :: t) h Q := en_dup mm88 dX6_share_26
theorem i88_27 {d l0 l1 l2 l3 t h Q} : Ev d 88 27 [l0, l1, l2, l3] t h Q = Ev d 88 28 [l0, l1, l2, l3] (.int 0 :: t) h Q := en_iconst mm88 dX6_share_27 (by decide)
theorem i88_28 {d l0 l2 l3 t x h Q} : Ev d 88 28 [l0, some (.int x), l2, l3] t h Q = Ev d 88 29 [l0, some (.int x), l2, l3] (.int x :: t) h Q := en_iload_n mm88 dX6_share_28 rfl
theorem i88_29 {d l0 l1 l2 l3 t x h Q} : Ev d 88 29 [l0, l1, l2, l3] (.int x :: t) h Q = Ev d 88 30 [l0, l1, l2, l3] (.long x.toInt64 :: t) h Q := en_i2l mm88 dX6_share_29
theorem i88_30 {d a j l0 l1 l2 l3 t x h Q} : Ev d 88 30 [l0, l1, l2, l3] (.long x :: .int j :: .ref a :: t) h Q = (hk h a = 12 ∧ inb j (hl h a) ∧ Ev d 88 31 [l0, l1, l2, l3] t (wJ h a (vp_updL (hJ h a) j.toNatClampNeg x)) Q) := en_lastore mm88 dX6_share_30
theorem i88_31 {d a l0 l1 l2 l3 t h Q} : Ev d 88 31 [l0, l1, l2, l3] (.ref a :: t) h Q = Ev d 88 32 [l0, l1, l2, l3] (.ref a :: .ref a :: t) h Q := en_dup mm88 dX6_share_31
theorem i88_32 {d l0 l1 l2 l3 t h Q} : Ev d 88 32 [l0, l1, l2, l3] t h Q = Ev d 88 33 [l0, l1, l2, l3] (.int 1 :: t) h Q := en_iconst mm88 dX6_share_32 (by decide)
theorem i88_33 {d l0 l1 l3 t x h Q} : Ev d 88 33 [l0, l1, some (.int x), l3] t h Q = Ev d 88 34 [l0, l1, some (.int x), l3] (.int x :: t) h Q := en_iload_n mm88 dX6_share_33 rfl
theorem i88_34 {d l0 l1 l2 l3 t x h Q} : Ev d 88 34 [l0, l1, l2, l3] (.int x :: t) h Q = Ev d 88 35 [l0, l1, l2, l3] (.long x.toInt64 :: t) h Q := en_i2l mm88 dX6_share_34
theorem i88_35 {d a j l0 l1 l2 l3 t x h Q} : Ev d 88 35 [l0, l1, l2, l3] (.long x :: .int j :: .ref a :: t) h Q = (hk h a = 12 ∧ inb j (hl h a) ∧ Ev d 88 36 [l0, l1, l2, l3] t (wJ h a (vp_updL (hJ h a) j.toNatClampNeg x)) Q) := en_lastore mm88 dX6_share_35
theorem i88_36 {d a l0 l1 l2 l3 t h Q} : Ev d 88 36 [l0, l1, l2, l3] (.ref a :: t) h Q = Ev d 88 37 [l0, l1, l2, l3] (.ref a :: .ref a :: t) h Q := en_dup mm88 dX6_share_36
theorem i88_37 {d l0 l1 l2 l3 t h Q} : Ev d 88 37 [l0, l1, l2, l3] t h Q = Ev d 88 38 [l0, l1, l2, l3] (.int 2 :: t) h Q := en_iconst mm88 dX6_share_37 (by decide)
theorem i88_38 {d l0 l1 l2 t x h Q} : Ev d 88 38 [l0, l1, l2, some (.int x)] t h Q = Ev d 88 39 [l0, l1, l2, some (.int x)] (.int x :: t) h Q := en_iload_n mm88 dX6_share_38 rfl
theorem i88_39 {d l0 l1 l2 l3 t x h Q} : Ev d 88 39 [l0, l1, l2, l3] (.int x :: t) h Q = Ev d 88 40 [l0, l1, l2, l3] (.long x.toInt64 :: t) h Q := en_i2l mm88 dX6_share_39
theorem i88_40 {d a j l0 l1 l2 l3 t x h Q} : Ev d 88 40 [l0, l1, l2, l3] (.long x :: .int j :: .ref a :: t) h Q = (hk h a = 12 ∧ inb j (hl h a) ∧ Ev d 88 41 [l0, l1, l2, l3] t (wJ h a (vp_updL (hJ h a) j.toNatClampNeg x)) Q) := en_lastore mm88 dX6_share_40
theorem i88_41 {d a l0 l1 l2 l3 x0 x2 x3 h Q} : Ev (d + 1) 88 41 [l0, l1, l2, l3] [x0, .ref a, x2, x3] h Q = (hk h a = 8 ∧ EvM d 100 [.ref a, x0] h (konN (d + 1) 88 44 [l0, l1, l2, l3] [x2, x3] Q)) := en_virtualN mm88 dX6_share_41 (by decide +kernel : ml _ _ = some (2, 100)) (by decide) (rfl : mtab[100]? = some _) (by decide +kernel : npar _ = 1) rfl (by decide) rfl (of_decide_eq_true rfl) (len_cat (of_decide_eq_true rfl)) rfl rfl rfl
theorem i88_44 {d l0 l1 l2 l3 x x0 y h Q} : Ev (d + 1) 88 44 [l0, l1, l2, l3] [.long y, .long x, x0] h Q = Ev (d + 1) 88 47 [l0, l1, l2, l3] [.long (if y < x then y else x), x0] h Q := en_minL mm88 dX6_share_44 (by decide +kernel) (of_decide_eq_true rfl)
theorem i88_47 {d l0 l1 l2 l3 x y h Q} : Ev (d + 1) 88 47 [l0, l1, l2, l3] [.long y, .long x] h Q = Ev (d + 1) 88 50 [l0, l1, l2, l3] [.long (if y < x then x else y)] h Q := en_maxL mm88 dX6_share_47 (by decide +kernel) (of_decide_eq_true rfl)
theorem i88_50 {d l0 l1 l2 l3 t x h Q} : Ev d 88 50 [l0, l1, l2, l3] (.long x :: t) h Q = Ev d 88 51 [l0, l1, l2, l3] (.int x.toInt32 :: t) h Q := en_l2i mm88 dX6_share_50
theorem i88_51 {d l0 l1 l2 l3 x h Q} : Ev d 88 51 [l0, l1, l2, l3] [.int x] h Q = Q (.inl (some (.int x))) h := en_ireturnI mm88 dX6_share_51 rfl
abbrev em89 : MI := (yX6_out, cX6_out, 3, none, 6, [])
theorem mm89 : mtab[89]? = some em89 := rfl
theorem in89 {d : Nat} {h : AH} {K : AO → AH → Prop} {v0 : Nat} {v1 : Nat} {v2 : Int32} : EvM d 89 [(.ref v0), (.ref v1), (.int v2)] h K = Ev d 89 0 [some (.ref v0), some (.ref v1), some (.int v2)] [] h K := evm_in mm89 (of_decide_eq_true rfl) rfl
theorem i89_0 {d a l0 l2 t h Q} : Ev d 89 0 [l0, some (.ref a), l2] t h Q = Ev d 89 1 [l0, some (.ref a), l2] (.ref a :: t) h Q := en_aload_n mm89 dX6_out_0 rfl
theorem i89_1 {d l0 l1 l2 t h Q} : Ev d 89 1 [l0, l1, l2] t h Q = Ev d 89 3 [l0, l1, l2] (.int (-2) :: t) h Q := en_bipush mm89 dX6_out_1 (by decide)
theorem i89_3 {d a l0 l1 l2 t x h Q} : Ev d 89 3 [l0, l1, l2] (.int x :: .ref a :: t) h Q = (hk h a = 20 ∧ Ev d 89 6 [l0, l1, l2] t (wF h a 3 (.int x)) Q) := en_putfield (cj := 9) mm89 dX6_out_3 (by decide +kernel) rfl
theorem i89_6 {d a l0 l2 t h Q} : Ev d 89 6 [l0, some (.ref a), l2] t h Q = Ev d 89 7 [l0, some (.ref a), l2] (.ref a :: t) h Q := en_aload_n mm89 dX6_out_6 rfl
theorem i89_7 {d l0 l1 t x h Q} : Ev d 89 7 [l0, l1, some (.int x)] t h Q = Ev d 89 8 [l0, l1, some (.int x)] (.int x :: t) h Q := en_iload_n mm89 dX6_out_7 rfl
theorem i89_8 {d a l0 l1 l2 t x h Q} : Ev d 89 8 [l0, l1, l2] (.int x :: .ref a :: t) h Q = (hk h a = 20 ∧ Ev d 89 11 [l0, l1, l2] t (wF h a 2 (.int x)) Q) := en_putfield (cj := 9) mm89 dX6_out_8 (by decide +kernel) rfl
theorem i89_11 {d l0 l1 l2 h Q} : Ev d 89 11 [l0, l1, l2] [] h Q = Q (.inl none) h := en_return mm89 dX6_out_11 rfl
abbrev em90 : MI := (yX6_cool, cX6_cool, 5, none, 6, [])
theorem mm90 : mtab[90]? = some em90 := rfl
theorem in90 {d : Nat} {h : AH} {K : AO → AH → Prop} {v0 : Nat} : EvM d 90 [(.ref v0)] h K = Ev d 90 0 [some (.ref v0), none, none, none, none] [] h K := evm_in mm90 (of_decide_eq_true rfl) rfl
theorem i90_0 {d a l1 l2 l3 l4 t h Q} : Ev d 90 0 [some (.ref a), l1, l2, l3, l4] t h Q = Ev d 90 1 [some (.ref a), l1, l2, l3, l4] (.ref a :: t) h Q := en_aload_n mm90 dX6_cool_0 rfl
theorem i90_1 {d l0 l1 l2 l3 l4 t h Q} : Ev d 90 1 [l0, l1, l2, l3, l4] t h Q = Ev d 90 2 [l0, l1, l2, l3, l4] (.int (-1) :: t) h Q := en_iconst mm90 dX6_cool_1 (by decide)
theorem i90_2 {d a l0 l1 l2 l3 l4 x0 h Q} : Ev (d + 1) 90 2 [l0, l1, l2, l3, l4] [x0, .ref a] h Q = (hk h a = 7 ∧ EvM d 87 [.ref a, x0] h (konN (d + 1) 90 5 [l0, l1, l2, l3, l4] [] Q)) := en_virtualN mm90 dX6_cool_2 (by decide +kernel : ml _ _ = some (2, 87)) (by decide) (rfl : mtab[87]? = some _) (by decide +kernel : npar _ = 1) rfl (by decide) rfl (of_decide_eq_true rfl) (len_cat (of_decide_eq_true rfl)) rfl rfl rfl
theorem i90_5 {d l0 l1 l2 l3 l4 t x h Q} : Ev d 90 5 [l0, l1, l2, l3, l4] (.int x :: t) h Q = if 0 ≤ x then Ev d 90 9 [l0, l1, l2, l3, l4] t h Q else Ev d 90 8 [l0, l1, l2, l3, l4] t h Q := en_if_ge mm90 dX6_cool_5 rfl
theorem i90_8 {d l0 l1 l2 l3 l4 h Q} : Ev d 90 8 [l0, l1, l2, l3, l4] [] h Q = Q (.inl none) h := en_return mm90 dX6_cool_8 rfl
theorem i90_9 {d a l1 l2 l3 l4 t h Q} : Ev d 90 9 [some (.ref a), l1, l2, l3, l4] t h Q = Ev d 90 10 [some (.ref a), l1, l2, l3, l4] (.ref a :: t) h Q := en_aload_n mm90 dX6_cool_9 rfl
theorem i90_10 {d a l0 l1 l2 l3 l4 t h Q} : Ev d 90 10 [l0, l1, l2, l3, l4] (.ref a :: t) h Q = Ev d 90 11 [l0, l1, l2, l3, l4] (.ref a :: .ref a :: t) h Q := en_dup mm90 dX6_cool_10
theorem i90_11 {d a l0 l1 l2 l3 l4 t h Q} : Ev d 90 11 [l0, l1, l2, l3, l4] (.ref a :: t) h Q = (hk h a = 7 ∧ Ev d 90 14 [l0, l1, l2, l3, l4] (hF h a 3 :: t) h Q) := en_getfield (cj := 6) mm90 dX6_cool_11 (by decide +kernel)
theorem i90_14 {d l0 l1 l2 l3 l4 t h Q} : Ev d 90 14 [l0, l1, l2, l3, l4] t h Q = Ev d 90 15 [l0, l1, l2, l3, l4] (.int 1 :: t) h Q := en_iconst mm90 dX6_cool_14 (by decide)
theorem i90_15 {d l0 l1 l2 l3 l4 t x y h Q} : Ev d 90 15 [l0, l1, l2, l3, l4] (.int y :: .int x :: t) h Q = Ev d 90 16 [l0, l1, l2, l3, l4] (.int (x - y) :: t) h Q := en_isub mm90 dX6_cool_15
theorem i90_16 {d a l0 l1 l2 l3 l4 t x h Q} : Ev d 90 16 [l0, l1, l2, l3, l4] (.int x :: .ref a :: t) h Q = (hk h a = 7 ∧ Ev d 90 19 [l0, l1, l2, l3, l4] t (wF h a 3 (.int x)) Q) := en_putfield (cj := 6) mm90 dX6_cool_16 (by decide +kernel) rfl
theorem i90_19 {d a l1 l2 l3 l4 t h Q} : Ev d 90 19 [some (.ref a), l1, l2, l3, l4] t h Q = Ev d 90 20 [some (.ref a), l1, l2, l3, l4] (.ref a :: t) h Q := en_aload_n mm90 dX6_cool_19 rfl
theorem i90_20 {d a l0 l1 l2 l3 l4 t h Q} : Ev d 90 20 [l0, l1, l2, l3, l4] (.ref a :: t) h Q = (hk h a = 7 ∧ Ev d 90 23 [l0, l1, l2, l3, l4] (hF h a 3 :: t) h Q) := en_getfield (cj := 6) mm90 dX6_cool_20 (by decide +kernel)
theorem i90_23 {d l0 l1 l2 l3 l4 t x h Q} : Ev d 90 23 [l0, l1, l2, l3, l4] (.int x :: t) h Q = if x ≤ 0 then Ev d 90 27 [l0, l1, l2, l3, l4] t h Q else Ev d 90 26 [l0, l1, l2, l3, l4] t h Q := en_if_le mm90 dX6_cool_23 rfl
theorem i90_26 {d l0 l1 l2 l3 l4 h Q} : Ev d 90 26 [l0, l1, l2, l3, l4] [] h Q = Q (.inl none) h := en_return mm90 dX6_cool_26 rfl
theorem i90_27 {d a l1 l2 l3 l4 t h Q} : Ev d 90 27 [some (.ref a), l1, l2, l3, l4] t h Q = Ev d 90 28 [some (.ref a), l1, l2, l3, l4] (.ref a :: t) h Q := en_aload_n mm90 dX6_cool_27 rfl
theorem i90_28 {d a l0 l1 l2 l3 l4 t h Q} : Ev d 90 28 [l0, l1, l2, l3, l4] (.ref a :: t) h Q = (hk h a = 7 ∧ Ev d 90 31 [l0, l1, l2, l3, l4] (hF h a 7 :: t) h Q) := en_getfield (cj := 6) mm90 dX6_cool_28 (by decide +kernel)
theorem i90_31 {d a l1 l2 l3 l4 t h Q} : Ev d 90 31 [some (.ref a), l1, l2, l3, l4] t h Q = Ev d 90 32 [some (.ref a), l1, l2, l3, l4] (.ref a :: t) h Q := en_aload_n mm90 dX6_cool_31 rfl
theorem i90_32 {d l0 l1 l2 l3 l4 t h Q} : Ev d 90 32 [l0, l1, l2, l3, l4] t h Q = Ev d 90 33 [l0, l1, l2, l3, l4] (.int (-1) :: t) h Q := en_iconst mm90 dX6_cool_32 (by decide)
theorem i90_33 {d a l0 l1 l2 l3 l4 x0 x2 h Q} : Ev (d + 1) 90 33 [l0, l1, l2, l3, l4] [x0, .ref a, x2] h Q = (hk h a = 7 ∧ EvM d 87 [.ref a, x0] h (konN (d + 1) 90 36 [l0, l1, l2, l3, l4] [x2] Q)) := en_virtualN mm90 dX6_cool_33 (by decide +kernel : ml _ _ = some (2, 87)) (by decide) (rfl : mtab[87]? = some _) (by decide +kernel : npar _ = 1) rfl (by decide) rfl (of_decide_eq_true rfl) (len_cat (of_decide_eq_true rfl)) rfl rfl rfl
theorem i90_36 {d a j l0 l1 l2 l3 l4 t h Q} : Ev d 90 36 [l0, l1, l2, l3, l4] (.int j :: .ref a :: t) h Q = ((13 ≤ hk h a ∧ hk h a ≤ 16) ∧ inb j (hl h a) ∧ Ev d 90 37 [l0, l1, l2, l3, l4] (orv (hR h a j.toNatClampNeg) :: t) h Q) := en_aaload mm90 dX6_cool_36
theorem i90_37 {d a l0 l1 l2 l3 l4 t h Q} : Ev d 90 37 [l0, l1, l2, l3, l4] (.ref a :: t) h Q = Ev d 90 38 [nl l0, some (.ref a), l2, l3, l4] t h Q := en_astore_n mm90 dX6_cool_37 (of_decide_eq_true rfl) rfl
theorem i90_38 {d a l1 l2 l3 l4 t h Q} : Ev d 90 38 [some (.ref a), l1, l2, l3, l4] t h Q = Ev d 90 39 [some (.ref a), l1, l2, l3, l4] (.ref a :: t) h Q := en_aload_n mm90 dX6_cool_38 rfl
theorem i90_39 {d a l0 l1 l2 l3 l4 t h Q} : Ev d 90 39 [l0, l1, l2, l3, l4] (.ref a :: t) h Q = (hk h a = 7 ∧ Ev d 90 42 [l0, l1, l2, l3, l4] (hF h a 8 :: t) h Q) := en_getfield (cj := 6) mm90 dX6_cool_39 (by decide +kernel)
theorem i90_42 {d a l0 l2 l3 l4 t h Q} : Ev d 90 42 [l0, some (.ref a), l2, l3, l4] t h Q = Ev d 90 43 [l0, some (.ref a), l2, l3, l4] (.ref a :: t) h Q := en_aload_n mm90 dX6_cool_42 rfl
theorem i90_43 {d a l0 l1 l2 l3 l4 t h Q} : Ev d 90 43 [l0, l1, l2, l3, l4] (.ref a :: t) h Q = (hk h a = 20 ∧ Ev d 90 46 [l0, l1, l2, l3, l4] (hF h a 0 :: t) h Q) := en_getfield (cj := 9) mm90 dX6_cool_43 (by decide +kernel)
theorem i90_46 {d a j l0 l1 l2 l3 l4 t h Q} : Ev d 90 46 [l0, l1, l2, l3, l4] (.int j :: .ref a :: t) h Q = ((13 ≤ hk h a ∧ hk h a ≤ 16) ∧ inb j (hl h a) ∧ Ev d 90 47 [l0, l1, l2, l3, l4] (orv (hR h a j.toNatClampNeg) :: t) h Q) := en_aaload mm90 dX6_cool_46
theorem i90_47 {d l0 l1 l2 l3 l4 t x h Q} : Ev d 90 47 [l0, l1, l2, l3, l4] (x :: t) h Q = (isR x = true ∧ Ev d 90 48 [l0, nl l1, some x, l3, l4] t h Q) := en_astore_nV mm90 dX6_cool_47 (of_decide_eq_true rfl) rfl
theorem i90_48 {d a l1 l2 l3 l4 t h Q} : Ev d 90 48 [some (.ref a), l1, l2, l3, l4] t h Q = Ev d 90 49 [some (.ref a), l1, l2, l3, l4] (.ref a :: t) h Q := en_aload_n mm90 dX6_cool_48 rfl
theorem i90_49 {d a l0 l1 l2 l3 l4 t h Q} : Ev d 90 49 [l0, l1, l2, l3, l4] (.ref a :: t) h Q = (hk h a = 7 ∧ Ev d 90 52 [l0, l1, l2, l3, l4] (hF h a 9 :: t) h Q) := en_getfield (cj := 6) mm90 dX6_cool_49 (by decide +kernel)
theorem i90_52 {d a l0 l2 l3 l4 t h Q} : Ev d 90 52 [l0, some (.ref a), l2, l3, l4] t h Q = Ev d 90 53 [l0, some (.ref a), l2, l3, l4] (.ref a :: t) h Q := en_aload_n mm90 dX6_cool_52 rfl
theorem i90_53 {d a l0 l1 l2 l3 l4 t h Q} : Ev d 90 53 [l0, l1, l2, l3, l4] (.ref a :: t) h Q = (hk h a = 20 ∧ Ev d 90 56 [l0, l1, l2, l3, l4] (hF h a 0 :: t) h Q) := en_getfield (cj := 9) mm90 dX6_cool_53 (by decide +kernel)
theorem i90_56 {d a j l0 l1 l2 l3 l4 t h Q} : Ev d 90 56 [l0, l1, l2, l3, l4] (.int j :: .ref a :: t) h Q = ((13 ≤ hk h a ∧ hk h a ≤ 16) ∧ inb j (hl h a) ∧ Ev d 90 57 [l0, l1, l2, l3, l4] (orv (hR h a j.toNatClampNeg) :: t) h Q) := en_aaload mm90 dX6_cool_56
theorem i90_57 {d a l0 l1 l2 l3 l4 t h Q} : Ev d 90 57 [l0, l1, l2, l3, l4] (.ref a :: t) h Q = Ev d 90 58 [l0, l1, nl l2, some (.ref a), l4] t h Q := en_astore_n mm90 dX6_cool_57 (of_decide_eq_true rfl) rfl
theorem i90_58 {d l0 l1 l3 l4 t x h Q} : Ev d 90 58 [l0, l1, some x, l3, l4] t h Q = (isR x = true ∧ Ev d 90 59 [l0, l1, some x, l3, l4] (x :: t) h Q) := en_aload_nV mm90 dX6_cool_58 rfl
theorem i90_59_N {d l0 l1 l2 l3 l4 t h Q} : Ev d 90 59 [l0, l1, l2, l3, l4] (.null :: t) h Q = Ev d 90 62 [l0, l1, l2, l3, l4] t h Q := en_ifnonnullN mm90 dX6_cool_59 (by decide : tgt? _ _ = some 66)
theorem i90_59_R {d a l0 l1 l2 l3 l4 t h Q} : Ev d 90 59 [l0, l1, l2, l3, l4] (.ref a :: t) h Q = Ev d 90 66 [l0, l1, l2, l3, l4] t h Q := en_ifnonnullR mm90 dX6_cool_59 (by decide : tgt? _ _ = some 66)
theorem i90_62 {d l0 l1 l2 l3 l4 t h Q} : Ev d 90 62 [l0, l1, l2, l3, l4] t h Q = Ev d 90 63 [l0, l1, l2, l3, l4] (.int 0 :: t) h Q := en_iconst mm90 dX6_cool_62 (by decide)
theorem i90_63 {d l0 l1 l2 l3 l4 t h Q} : Ev d 90 63 [l0, l1, l2, l3, l4] t h Q = Ev d 90 95 [l0, l1, l2, l3, l4] t h Q := en_goto mm90 dX6_cool_63 rfl
theorem i90_66 {d a l0 l2 l3 l4 t h Q} : Ev d 90 66 [l0, some (.ref a), l2, l3, l4] t h Q = Ev d 90 67 [l0, some (.ref a), l2, l3, l4] (.ref a :: t) h Q := en_aload_n mm90 dX6_cool_66 rfl
theorem i90_67 {d a l0 l1 l2 l3 l4 t h Q} : Ev d 90 67 [l0, l1, l2, l3, l4] (.ref a :: t) h Q = (hk h a = 20 ∧ Ev d 90 70 [l0, l1, l2, l3, l4] (hF h a 1 :: t) h Q) := en_getfield (cj := 9) mm90 dX6_cool_67 (by decide +kernel)
theorem i90_70 {d l0 l1 l3 l4 t x h Q} : Ev d 90 70 [l0, l1, some x, l3, l4] t h Q = (isR x = true ∧ Ev d 90 71 [l0, l1, some x, l3, l4] (x :: t) h Q) := en_aload_nV mm90 dX6_cool_70 rfl
theorem i90_71 {d l0 l1 l2 l3 l4 t h Q} : Ev d 90 71 [l0, l1, l2, l3, l4] t h Q = Ev d 90 72 [l0, l1, l2, l3, l4] (.int 0 :: t) h Q := en_iconst mm90 dX6_cool_71 (by decide)
theorem i90_72 {d a j l0 l1 l2 l3 l4 t h Q} : Ev d 90 72 [l0, l1, l2, l3, l4] (.int j :: .ref a :: t) h Q = (hk h a = 10 ∧ inb j (hl h a) ∧ Ev d 90 73 [l0, l1, l2, l3, l4] (.int (hA h a j.toNatClampNeg) :: t) h Q) := en_iaload mm90 dX6_cool_72
theorem i90_73 {d l0 l1 l2 l3 l4 t x y h Q} : Ev d 90 73 [l0, l1, l2, l3, l4] (.int y :: .int x :: t) h Q = if y ≤ x then Ev d 90 80 [l0, l1, l2, l3, l4] t h Q else Ev d 90 76 [l0, l1, l2, l3, l4] t h Q := en_ic_ge mm90 dX6_cool_73 rfl
theorem i90_76 {d l0 l1 l2 l3 l4 t h Q} : Ev d 90 76 [l0, l1, l2, l3, l4] t h Q = Ev d 90 77 [l0, l1, l2, l3, l4] (.int 1 :: t) h Q := en_iconst mm90 dX6_cool_76 (by decide)
theorem i90_77 {d l0 l1 l2 l3 l4 t h Q} : Ev d 90 77 [l0, l1, l2, l3, l4] t h Q = Ev d 90 95 [l0, l1, l2, l3, l4] t h Q := en_goto mm90 dX6_cool_77 rfl
theorem i90_80 {d a l0 l2 l3 l4 t h Q} : Ev d 90 80 [l0, some (.ref a), l2, l3, l4] t h Q = Ev d 90 81 [l0, some (.ref a), l2, l3, l4] (.ref a :: t) h Q := en_aload_n mm90 dX6_cool_80 rfl
theorem i90_81 {d a l0 l1 l2 l3 l4 t h Q} : Ev d 90 81 [l0, l1, l2, l3, l4] (.ref a :: t) h Q = (hk h a = 20 ∧ Ev d 90 84 [l0, l1, l2, l3, l4] (hF h a 1 :: t) h Q) := en_getfield (cj := 9) mm90 dX6_cool_81 (by decide +kernel)
theorem i90_84 {d l0 l1 l3 l4 t x h Q} : Ev d 90 84 [l0, l1, some x, l3, l4] t h Q = (isR x = true ∧ Ev d 90 85 [l0, l1, some x, l3, l4] (x :: t) h Q) := en_aload_nV mm90 dX6_cool_84 rfl
theorem i90_85 {d l0 l1 l2 l3 l4 t h Q} : Ev d 90 85 [l0, l1, l2, l3, l4] t h Q = Ev d 90 86 [l0, l1, l2, l3, l4] (.int 1 :: t) h Q := en_iconst mm90 dX6_cool_85 (by decide)
theorem i90_86 {d a j l0 l1 l2 l3 l4 t h Q} : Ev d 90 86 [l0, l1, l2, l3, l4] (.int j :: .ref a :: t) h Q = (hk h a = 10 ∧ inb j (hl h a) ∧ Ev d 90 87 [l0, l1, l2, l3, l4] (.int (hA h a j.toNatClampNeg) :: t) h Q) := en_iaload mm90 dX6_cool_86
theorem i90_87 {d l0 l1 l2 l3 l4 t x y h Q} : Ev d 90 87 [l0, l1, l2, l3, l4] (.int y :: .int x :: t) h Q = if x ≤ y then Ev d 90 94 [l0, l1, l2, l3, l4] t h Q else Ev d 90 90 [l0, l1, l2, l3, l4] t h Q := en_ic_le mm90 dX6_cool_87 rfl
theorem i90_90 {d l0 l1 l2 l3 l4 t h Q} : Ev d 90 90 [l0, l1, l2, l3, l4] t h Q = Ev d 90 91 [l0, l1, l2, l3, l4] (.int 2 :: t) h Q := en_iconst mm90 dX6_cool_90 (by decide)
theorem i90_91 {d l0 l1 l2 l3 l4 t h Q} : Ev d 90 91 [l0, l1, l2, l3, l4] t h Q = Ev d 90 95 [l0, l1, l2, l3, l4] t h Q := en_goto mm90 dX6_cool_91 rfl
theorem i90_94 {d l0 l1 l2 l3 l4 t h Q} : Ev d 90 94 [l0, l1, l2, l3, l4] t h Q = Ev d 90 95 [l0, l1, l2, l3, l4] (.int 0 :: t) h Q := en_iconst mm90 dX6_cool_94 (by decide)
theorem i90_95 {d l0 l1 l2 l3 l4 t x h Q} : Ev d 90 95 [l0, l1, l2, l3, l4] (.int x :: t) h Q = Ev d 90 97 [l0, l1, l2, nl l3, some (.int x)] t h Q := en_istore mm90 dX6_cool_95 (of_decide_eq_true rfl) rfl
theorem i90_97 {d a l1 l2 l3 l4 t h Q} : Ev d 90 97 [some (.ref a), l1, l2, l3, l4] t h Q = Ev d 90 98 [some (.ref a), l1, l2, l3, l4] (.ref a :: t) h Q := en_aload_n mm90 dX6_cool_97 rfl
theorem i90_98 {d a l0 l2 l3 l4 t h Q} : Ev d 90 98 [l0, some (.ref a), l2, l3, l4] t h Q = Ev d 90 99 [l0, some (.ref a), l2, l3, l4] (.ref a :: t) h Q := en_aload_n mm90 dX6_cool_98 rfl
theorem i90_99 {d l0 l1 l2 l3 t x h Q} : Ev d 90 99 [l0, l1, l2, l3, some (.int x)] t h Q = Ev d 90 101 [l0, l1, l2, l3, some (.int x)] (.int x :: t) h Q := en_iload mm90 dX6_cool_99 rfl
theorem i90_101 {d l0 l1 l2 l3 l4 t x h Q} : Ev d 90 101 [l0, l1, l2, l3, l4] (.int x :: t) h Q = if x = 0 then Ev d 90 104 [l0, l1, l2, l3, l4] t h Q else Ev d 90 108 [l0, l1, l2, l3, l4] t h Q := en_if_ne mm90 dX6_cool_101 rfl
theorem i90_104 {d l0 l1 l2 l3 l4 t h Q} : Ev d 90 104 [l0, l1, l2, l3, l4] t h Q = Ev d 90 105 [l0, l1, l2, l3, l4] (.int 3 :: t) h Q := en_iconst mm90 dX6_cool_104 (by decide)
theorem i90_105 {d l0 l1 l2 l3 l4 t h Q} : Ev d 90 105 [l0, l1, l2, l3, l4] t h Q = Ev d 90 109 [l0, l1, l2, l3, l4] t h Q := en_goto mm90 dX6_cool_105 rfl
theorem i90_108 {d l0 l1 l2 l3 l4 t h Q} : Ev d 90 108 [l0, l1, l2, l3, l4] t h Q = Ev d 90 109 [l0, l1, l2, l3, l4] (.int 4 :: t) h Q := en_iconst mm90 dX6_cool_108 (by decide)
theorem i90_109 {d a l0 l1 l2 l3 l4 x0 x1 h Q} : Ev (d + 1) 90 109 [l0, l1, l2, l3, l4] [x0, x1, .ref a] h Q = (hk h a = 7 ∧ EvM d 89 [.ref a, x1, x0] h (konN (d + 1) 90 112 [l0, l1, l2, l3, l4] [] Q)) := en_virtualN mm90 dX6_cool_109 (by decide +kernel : ml _ _ = some (2, 89)) (by decide) (rfl : mtab[89]? = some _) (by decide +kernel : npar _ = 2) rfl (by decide) rfl (of_decide_eq_true rfl) (len_cat (of_decide_eq_true rfl)) rfl rfl rfl
theorem i90_112 {d a l0 l1 l2 l4 t h Q} : Ev d 90 112 [l0, l1, l2, some (.ref a), l4] t h Q = Ev d 90 113 [l0, l1, l2, some (.ref a), l4] (.ref a :: t) h Q := en_aload_n mm90 dX6_cool_112 rfl
theorem i90_113 {d l0 l1 l2 l3 t x h Q} : Ev d 90 113 [l0, l1, l2, l3, some (.int x)] t h Q = Ev d 90 115 [l0, l1, l2, l3, some (.int x)] (.int x :: t) h Q := en_iload mm90 dX6_cool_113 rfl
theorem i90_115 {d a l0 l1 l2 l3 l4 t x h Q} : Ev d 90 115 [l0, l1, l2, l3, l4] (.int x :: .ref a :: t) h Q = Ev d 90 116 [l0, l1, l2, l3, l4] (.int x :: .ref a :: .int x :: .ref a :: t) h Q := en_dup2 mm90 dX6_cool_115
theorem i90_116 {d a j l0 l1 l2 l3 l4 t h Q} : Ev d 90 116 [l0, l1, l2, l3, l4] (.int j :: .ref a :: t) h Q = (hk h a = 10 ∧ inb j (hl h a) ∧ Ev d 90 117 [l0, l1, l2, l3, l4] (.int (hA h a j.toNatClampNeg) :: t) h Q) := en_iaload mm90 dX6_cool_116
theorem i90_117 {d l0 l1 l2 l3 l4 t h Q} : Ev d 90 117 [l0, l1, l2, l3, l4] t h Q = Ev d 90 118 [l0, l1, l2, l3, l4] (.int 1 :: t) h Q := en_iconst mm90 dX6_cool_117 (by decide)
theorem i90_118 {d l0 l1 l2 l3 l4 t x y h Q} : Ev d 90 118 [l0, l1, l2, l3, l4] (.int y :: .int x :: t) h Q = Ev d 90 119 [l0, l1, l2, l3, l4] (.int (x + y) :: t) h Q := en_iadd mm90 dX6_cool_118
theorem i90_119 {d a j l0 l1 l2 l3 l4 t x h Q} : Ev d 90 119 [l0, l1, l2, l3, l4] (.int x :: .int j :: .ref a :: t) h Q = (hk h a = 10 ∧ inb j (hl h a) ∧ Ev d 90 120 [l0, l1, l2, l3, l4] t (wA h a (upd (hA h a) j.toNatClampNeg x)) Q) := en_iastore mm90 dX6_cool_119
theorem i90_120 {d l0 l1 l2 l3 t x h Q} : Ev d 90 120 [l0, l1, l2, l3, some (.int x)] t h Q = Ev d 90 122 [l0, l1, l2, l3, some (.int x)] (.int x :: t) h Q := en_iload mm90 dX6_cool_120 rfl
theorem i90_122 {d l0 l1 l2 l3 l4 t h Q} : Ev d 90 122 [l0, l1, l2, l3, l4] t h Q = Ev d 90 123 [l0, l1, l2, l3, l4] (.int 1 :: t) h Q := en_iconst mm90 dX6_cool_122 (by decide)
theorem i90_123 {d l0 l1 l2 l3 l4 t x y h Q} : Ev d 90 123 [l0, l1, l2, l3, l4] (.int y :: .int x :: t) h Q = if x = y then Ev d 90 126 [l0, l1, l2, l3, l4] t h Q else Ev d 90 142 [l0, l1, l2, l3, l4] t h Q := en_ic_ne mm90 dX6_cool_123 rfl
theorem i90_126 {d a l0 l1 l2 l4 t h Q} : Ev d 90 126 [l0, l1, l2, some (.ref a), l4] t h Q = Ev d 90 127 [l0, l1, l2, some (.ref a), l4] (.ref a :: t) h Q := en_aload_n mm90 dX6_cool_126 rfl
theorem i90_127 {d l0 l1 l2 l3 l4 t h Q} : Ev d 90 127 [l0, l1, l2, l3, l4] t h Q = Ev d 90 128 [l0, l1, l2, l3, l4] (.int 3 :: t) h Q := en_iconst mm90 dX6_cool_127 (by decide)
theorem i90_128 {d l0 l1 l2 l3 l4 t h Q} : Ev d 90 128 [l0, l1, l2, l3, l4] t h Q = Ev d 90 130 [l0, l1, l2, l3, l4] (.int 50 :: t) h Q := en_bipush mm90 dX6_cool_128 (by decide)
theorem i90_130 {d a l0 l1 l2 l4 t h Q} : Ev d 90 130 [l0, l1, l2, some (.ref a), l4] t h Q = Ev d 90 131 [l0, l1, l2, some (.ref a), l4] (.ref a :: t) h Q := en_aload_n mm90 dX6_cool_130 rfl
theorem i90_131 {d l0 l1 l2 l3 l4 t h Q} : Ev d 90 131 [l0, l1, l2, l3, l4] t h Q = Ev d 90 132 [l0, l1, l2, l3, l4] (.int 3 :: t) h Q := en_iconst mm90 dX6_cool_131 (by decide)
theorem i90_132 {d a j l0 l1 l2 l3 l4 t h Q} : Ev d 90 132 [l0, l1, l2, l3, l4] (.int j :: .ref a :: t) h Q = (hk h a = 10 ∧ inb j (hl h a) ∧ Ev d 90 133 [l0, l1, l2, l3, l4] (.int (hA h a j.toNatClampNeg) :: t) h Q) := en_iaload mm90 dX6_cool_132
theorem i90_133 {d a l1 l2 l3 l4 t h Q} : Ev d 90 133 [some (.ref a), l1, l2, l3, l4] t h Q = Ev d 90 134 [some (.ref a), l1, l2, l3, l4] (.ref a :: t) h Q := en_aload_n mm90 dX6_cool_133 rfl
theorem i90_134 {d a l0 l1 l2 l3 l4 t h Q} : Ev d 90 134 [l0, l1, l2, l3, l4] (.ref a :: t) h Q = (hk h a = 7 ∧ Ev d 90 137 [l0, l1, l2, l3, l4] (hF h a 2 :: t) h Q) := en_getfield (cj := 6) mm90 dX6_cool_134 (by decide +kernel)
theorem i90_137 {d l0 l1 l2 l3 l4 t x y h Q} : Ev d 90 137 [l0, l1, l2, l3, l4] (.int y :: .int x :: t) h Q = Ev d 90 138 [l0, l1, l2, l3, l4] (.int (x + y) :: t) h Q := en_iadd mm90 dX6_cool_137
theorem i90_138 {d l0 l1 l2 l3 l4 x x0 x1 y h Q} : Ev (d + 1) 90 138 [l0, l1, l2, l3, l4] [.int y, .int x, x0, x1] h Q = Ev (d + 1) 90 141 [l0, l1, l2, l3, l4] [.int (if y < x then y else x), x0, x1] h Q := en_min mm90 dX6_cool_138 (by decide +kernel) (of_decide_eq_true rfl)
theorem i90_141 {d a j l0 l1 l2 l3 l4 t x h Q} : Ev d 90 141 [l0, l1, l2, l3, l4] (.int x :: .int j :: .ref a :: t) h Q = (hk h a = 10 ∧ inb j (hl h a) ∧ Ev d 90 142 [l0, l1, l2, l3, l4] t (wA h a (upd (hA h a) j.toNatClampNeg x)) Q) := en_iastore mm90 dX6_cool_141
theorem i90_142 {d l0 l1 l2 l3 t x h Q} : Ev d 90 142 [l0, l1, l2, l3, some (.int x)] t h Q = Ev d 90 144 [l0, l1, l2, l3, some (.int x)] (.int x :: t) h Q := en_iload mm90 dX6_cool_142 rfl
theorem i90_144 {d l0 l1 l2 l3 l4 t h Q} : Ev d 90 144 [l0, l1, l2, l3, l4] t h Q = Ev d 90 145 [l0, l1, l2, l3, l4] (.int 2 :: t) h Q := en_iconst mm90 dX6_cool_144 (by decide)
theorem i90_145 {d l0 l1 l2 l3 l4 t x y h Q} : Ev d 90 145 [l0, l1, l2, l3, l4] (.int y :: .int x :: t) h Q = if x = y then Ev d 90 148 [l0, l1, l2, l3, l4] t h Q else Ev d 90 164 [l0, l1, l2, l3, l4] t h Q := en_ic_ne mm90 dX6_cool_145 rfl
theorem i90_148 {d a l0 l1 l2 l4 t h Q} : Ev d 90 148 [l0, l1, l2, some (.ref a), l4] t h Q = Ev d 90 149 [l0, l1, l2, some (.ref a), l4] (.ref a :: t) h Q := en_aload_n mm90 dX6_cool_148 rfl
theorem i90_149 {d l0 l1 l2 l3 l4 t h Q} : Ev d 90 149 [l0, l1, l2, l3, l4] t h Q = Ev d 90 150 [l0, l1, l2, l3, l4] (.int 3 :: t) h Q := en_iconst mm90 dX6_cool_149 (by decide)
theorem i90_150 {d l0 l1 l2 l3 l4 t h Q} : Ev d 90 150 [l0, l1, l2, l3, l4] t h Q = Ev d 90 152 [l0, l1, l2, l3, l4] (.int (-50) :: t) h Q := en_bipush mm90 dX6_cool_150 (by decide)
theorem i90_152 {d a l0 l1 l2 l4 t h Q} : Ev d 90 152 [l0, l1, l2, some (.ref a), l4] t h Q = Ev d 90 153 [l0, l1, l2, some (.ref a), l4] (.ref a :: t) h Q := en_aload_n mm90 dX6_cool_152 rfl
theorem i90_153 {d l0 l1 l2 l3 l4 t h Q} : Ev d 90 153 [l0, l1, l2, l3, l4] t h Q = Ev d 90 154 [l0, l1, l2, l3, l4] (.int 3 :: t) h Q := en_iconst mm90 dX6_cool_153 (by decide)
theorem i90_154 {d a j l0 l1 l2 l3 l4 t h Q} : Ev d 90 154 [l0, l1, l2, l3, l4] (.int j :: .ref a :: t) h Q = (hk h a = 10 ∧ inb j (hl h a) ∧ Ev d 90 155 [l0, l1, l2, l3, l4] (.int (hA h a j.toNatClampNeg) :: t) h Q) := en_iaload mm90 dX6_cool_154
theorem i90_155 {d a l1 l2 l3 l4 t h Q} : Ev d 90 155 [some (.ref a), l1, l2, l3, l4] t h Q = Ev d 90 156 [some (.ref a), l1, l2, l3, l4] (.ref a :: t) h Q := en_aload_n mm90 dX6_cool_155 rfl
theorem i90_156 {d a l0 l1 l2 l3 l4 t h Q} : Ev d 90 156 [l0, l1, l2, l3, l4] (.ref a :: t) h Q = (hk h a = 7 ∧ Ev d 90 159 [l0, l1, l2, l3, l4] (hF h a 2 :: t) h Q) := en_getfield (cj := 6) mm90 dX6_cool_156 (by decide +kernel)
theorem i90_159 {d l0 l1 l2 l3 l4 t x y h Q} : Ev d 90 159 [l0, l1, l2, l3, l4] (.int y :: .int x :: t) h Q = Ev d 90 160 [l0, l1, l2, l3, l4] (.int (x - y) :: t) h Q := en_isub mm90 dX6_cool_159
theorem i90_160 {d l0 l1 l2 l3 l4 x x0 x1 y h Q} : Ev (d + 1) 90 160 [l0, l1, l2, l3, l4] [.int y, .int x, x0, x1] h Q = Ev (d + 1) 90 163 [l0, l1, l2, l3, l4] [.int (if x < y then y else x), x0, x1] h Q := en_max mm90 dX6_cool_160 (by decide +kernel) (of_decide_eq_true rfl)
theorem i90_163 {d a j l0 l1 l2 l3 l4 t x h Q} : Ev d 90 163 [l0, l1, l2, l3, l4] (.int x :: .int j :: .ref a :: t) h Q = (hk h a = 10 ∧ inb j (hl h a) ∧ Ev d 90 164 [l0, l1, l2, l3, l4] t (wA h a (upd (hA h a) j.toNatClampNeg x)) Q) := en_iastore mm90 dX6_cool_163
theorem i90_164 {d l0 l1 l2 l3 l4 h Q} : Ev d 90 164 [l0, l1, l2, l3, l4] [] h Q = Q (.inl none) h := en_return mm90 dX6_cool_164 rfl
abbrev em91 : MI := (yX6_step, cX6_step, 5, none, 6, [])
theorem mm91 : mtab[91]? = some em91 := rfl
theorem in91 {d : Nat} {h : AH} {K : AO → AH → Prop} {v0 : Nat} {v1 : Int32} : EvM d 91 [(.ref v0), (.int v1)] h K = Ev d 91 0 [some (.ref v0), some (.int v1), none, none, none] [] h K := evm_in mm91 (of_decide_eq_true rfl) rfl
theorem i91_0 {d a l1 l2 l3 l4 t h Q} : Ev d 91 0 [some (.ref a), l1, l2, l3, l4] t h Q = Ev d 91 1 [some (.ref a), l1, l2, l3, l4] (.ref a :: t) h Q := en_aload_n mm91 dX6_step_0 rfl
theorem i91_1 {d l0 l2 l3 l4 t x h Q} : Ev d 91 1 [l0, some (.int x), l2, l3, l4] t h Q = Ev d 91 2 [l0, some (.int x), l2, l3, l4] (.int x :: t) h Q := en_iload_n mm91 dX6_step_1 rfl
theorem i91_2 {d a l0 l1 l2 l3 l4 x0 h Q} : Ev (d + 1) 91 2 [l0, l1, l2, l3, l4] [x0, .ref a] h Q = (hk h a = 7 ∧ EvM d 87 [.ref a, x0] h (konN (d + 1) 91 5 [l0, l1, l2, l3, l4] [] Q)) := en_virtualN mm91 dX6_step_2 (by decide +kernel : ml _ _ = some (2, 87)) (by decide) (rfl : mtab[87]? = some _) (by decide +kernel : npar _ = 1) rfl (by decide) rfl (of_decide_eq_true rfl) (len_cat (of_decide_eq_true rfl)) rfl rfl rfl
theorem i91_5 {d l0 l1 l2 l3 l4 t x h Q} : Ev d 91 5 [l0, l1, l2, l3, l4] (.int x :: t) h Q = if 0 ≤ x then Ev d 91 9 [l0, l1, l2, l3, l4] t h Q else Ev d 91 8 [l0, l1, l2, l3, l4] t h Q := en_if_ge mm91 dX6_step_5 rfl
theorem i91_8 {d l0 l1 l2 l3 l4 h Q} : Ev d 91 8 [l0, l1, l2, l3, l4] [] h Q = Q (.inl none) h := en_return mm91 dX6_step_8 rfl
theorem i91_9 {d a l1 l2 l3 l4 t h Q} : Ev d 91 9 [some (.ref a), l1, l2, l3, l4] t h Q = Ev d 91 10 [some (.ref a), l1, l2, l3, l4] (.ref a :: t) h Q := en_aload_n mm91 dX6_step_9 rfl
theorem i91_10 {d a l0 l1 l2 l3 l4 t h Q} : Ev d 91 10 [l0, l1, l2, l3, l4] (.ref a :: t) h Q = (hk h a = 7 ∧ Ev d 91 13 [l0, l1, l2, l3, l4] (hF h a 7 :: t) h Q) := en_getfield (cj := 6) mm91 dX6_step_10 (by decide +kernel)
theorem i91_13 {d a l1 l2 l3 l4 t h Q} : Ev d 91 13 [some (.ref a), l1, l2, l3, l4] t h Q = Ev d 91 14 [some (.ref a), l1, l2, l3, l4] (.ref a :: t) h Q := en_aload_n mm91 dX6_step_13 rfl
theorem i91_14 {d l0 l2 l3 l4 t x h Q} : Ev d 91 14 [l0, some (.int x), l2, l3, l4] t h Q = Ev d 91 15 [l0, some (.int x), l2, l3, l4] (.int x :: t) h Q := en_iload_n mm91 dX6_step_14 rfl
theorem i91_15 {d a l0 l1 l2 l3 l4 x0 x2 h Q} : Ev (d + 1) 91 15 [l0, l1, l2, l3, l4] [x0, .ref a, x2] h Q = (hk h a = 7 ∧ EvM d 87 [.ref a, x0] h (konN (d + 1) 91 18 [l0, l1, l2, l3, l4] [x2] Q)) := en_virtualN mm91 dX6_step_15 (by decide +kernel : ml _ _ = some (2, 87)) (by decide) (rfl : mtab[87]? = some _) (by decide +kernel : npar _ = 1) rfl (by decide) rfl (of_decide_eq_true rfl) (len_cat (of_decide_eq_true rfl)) rfl rfl rfl
theorem i91_18 {d a j l0 l1 l2 l3 l4 t h Q} : Ev d 91 18 [l0, l1, l2, l3, l4] (.int j :: .ref a :: t) h Q = ((13 ≤ hk h a ∧ hk h a ≤ 16) ∧ inb j (hl h a) ∧ Ev d 91 19 [l0, l1, l2, l3, l4] (orv (hR h a j.toNatClampNeg) :: t) h Q) := en_aaload mm91 dX6_step_18
theorem i91_19 {d a l0 l1 l2 l3 l4 t h Q} : Ev d 91 19 [l0, l1, l2, l3, l4] (.ref a :: t) h Q = Ev d 91 20 [l0, nl l1, some (.ref a), l3, l4] t h Q := en_astore_n mm91 dX6_step_19 (of_decide_eq_true rfl) rfl
theorem i91_20 {d l0 l2 l3 l4 t x h Q} : Ev d 91 20 [l0, some (.int x), l2, l3, l4] t h Q = Ev d 91 21 [l0, some (.int x), l2, l3, l4] (.int x :: t) h Q := en_iload_n mm91 dX6_step_20 rfl
theorem i91_21 {d a l1 l2 l3 l4 t h Q} : Ev d 91 21 [some (.ref a), l1, l2, l3, l4] t h Q = Ev d 91 22 [some (.ref a), l1, l2, l3, l4] (.ref a :: t) h Q := en_aload_n mm91 dX6_step_21 rfl
theorem i91_22 {d a l0 l1 l2 l3 l4 t h Q} : Ev d 91 22 [l0, l1, l2, l3, l4] (.ref a :: t) h Q = (hk h a = 7 ∧ Ev d 91 25 [l0, l1, l2, l3, l4] (hF h a 5 :: t) h Q) := en_getfield (cj := 6) mm91 dX6_step_22 (by decide +kernel)
theorem i91_25 {d a l0 l1 l2 l3 l4 t h Q} : Ev d 91 25 [l0, l1, l2, l3, l4] (.ref a :: t) h Q = ((10 ≤ hk h a ∧ hk h a ≤ 16) ∧ Ev d 91 26 [l0, l1, l2, l3, l4] (.int (nI (hl h a)) :: t) h Q) := en_arraylength mm91 dX6_step_25
theorem i91_26 {d l0 l1 l2 l3 l4 t h Q} : Ev d 91 26 [l0, l1, l2, l3, l4] t h Q = Ev d 91 27 [l0, l1, l2, l3, l4] (.int 1 :: t) h Q := en_iconst mm91 dX6_step_26 (by decide)
theorem i91_27 {d l0 l1 l2 l3 l4 t x y h Q} : Ev d 91 27 [l0, l1, l2, l3, l4] (.int y :: .int x :: t) h Q = Ev d 91 28 [l0, l1, l2, l3, l4] (.int (x - y) :: t) h Q := en_isub mm91 dX6_step_27
theorem i91_28 {d l0 l1 l2 l3 l4 t x y h Q} : Ev d 91 28 [l0, l1, l2, l3, l4] (.int y :: .int x :: t) h Q = if x = y then Ev d 91 31 [l0, l1, l2, l3, l4] t h Q else Ev d 91 45 [l0, l1, l2, l3, l4] t h Q := en_ic_ne mm91 dX6_step_28 rfl
theorem i91_31 {d a l1 l2 l3 l4 t h Q} : Ev d 91 31 [some (.ref a), l1, l2, l3, l4] t h Q = Ev d 91 32 [some (.ref a), l1, l2, l3, l4] (.ref a :: t) h Q := en_aload_n mm91 dX6_step_31 rfl
theorem i91_32 {d a l0 l1 l2 l3 l4 t h Q} : Ev d 91 32 [l0, l1, l2, l3, l4] (.ref a :: t) h Q = (hk h a = 7 ∧ Ev d 91 35 [l0, l1, l2, l3, l4] (hF h a 9 :: t) h Q) := en_getfield (cj := 6) mm91 dX6_step_32 (by decide +kernel)
theorem i91_35 {d a l0 l1 l3 l4 t h Q} : Ev d 91 35 [l0, l1, some (.ref a), l3, l4] t h Q = Ev d 91 36 [l0, l1, some (.ref a), l3, l4] (.ref a :: t) h Q := en_aload_n mm91 dX6_step_35 rfl
theorem i91_36 {d a l0 l1 l2 l3 l4 t h Q} : Ev d 91 36 [l0, l1, l2, l3, l4] (.ref a :: t) h Q = (hk h a = 20 ∧ Ev d 91 39 [l0, l1, l2, l3, l4] (hF h a 0 :: t) h Q) := en_getfield (cj := 9) mm91 dX6_step_36 (by decide +kernel)
theorem i91_39 {d a j l0 l1 l2 l3 l4 t h Q} : Ev d 91 39 [l0, l1, l2, l3, l4] (.int j :: .ref a :: t) h Q = ((13 ≤ hk h a ∧ hk h a ≤ 16) ∧ inb j (hl h a) ∧ Ev d 91 40 [l0, l1, l2, l3, l4] (orv (hR h a j.toNatClampNeg) :: t) h Q) := en_aaload mm91 dX6_step_39
theorem i91_40 {d l0 l1 l2 l3 l4 t h Q} : Ev d 91 40 [l0, l1, l2, l3, l4] t h Q = Ev d 91 41 [l0, l1, l2, l3, l4] (.int 3 :: t) h Q := en_iconst mm91 dX6_step_40 (by decide)
theorem i91_41 {d a j l0 l1 l2 l3 l4 t h Q} : Ev d 91 41 [l0, l1, l2, l3, l4] (.int j :: .ref a :: t) h Q = (hk h a = 10 ∧ inb j (hl h a) ∧ Ev d 91 42 [l0, l1, l2, l3, l4] (.int (hA h a j.toNatClampNeg) :: t) h Q) := en_iaload mm91 dX6_step_41
theorem i91_42 {d l0 l1 l2 l3 l4 t h Q} : Ev d 91 42 [l0, l1, l2, l3, l4] t h Q = Ev d 91 46 [l0, l1, l2, l3, l4] t h Q := en_goto mm91 dX6_step_42 rfl
theorem i91_45 {d l0 l1 l2 l3 l4 t h Q} : Ev d 91 45 [l0, l1, l2, l3, l4] t h Q = Ev d 91 46 [l0, l1, l2, l3, l4] (.int 0 :: t) h Q := en_iconst mm91 dX6_step_45 (by decide)
theorem i91_46 {d l0 l1 l2 l3 l4 t x h Q} : Ev d 91 46 [l0, l1, l2, l3, l4] (.int x :: t) h Q = Ev d 91 47 [l0, l1, nl l2, some (.int x), l4] t h Q := en_istore_n mm91 dX6_step_46 (of_decide_eq_true rfl) rfl
theorem i91_47 {d l0 l2 l3 l4 t x h Q} : Ev d 91 47 [l0, some (.int x), l2, l3, l4] t h Q = Ev d 91 48 [l0, some (.int x), l2, l3, l4] (.int x :: t) h Q := en_iload_n mm91 dX6_step_47 rfl
theorem i91_48 {d a l1 l2 l3 l4 t h Q} : Ev d 91 48 [some (.ref a), l1, l2, l3, l4] t h Q = Ev d 91 49 [some (.ref a), l1, l2, l3, l4] (.ref a :: t) h Q := en_aload_n mm91 dX6_step_48 rfl
theorem i91_49 {d a l0 l1 l2 l3 l4 t h Q} : Ev d 91 49 [l0, l1, l2, l3, l4] (.ref a :: t) h Q = (hk h a = 7 ∧ Ev d 91 52 [l0, l1, l2, l3, l4] (hF h a 5 :: t) h Q) := en_getfield (cj := 6) mm91 dX6_step_49 (by decide +kernel)
theorem i91_52 {d a l0 l1 l2 l3 l4 t h Q} : Ev d 91 52 [l0, l1, l2, l3, l4] (.ref a :: t) h Q = ((10 ≤ hk h a ∧ hk h a ≤ 16) ∧ Ev d 91 53 [l0, l1, l2, l3, l4] (.int (nI (hl h a)) :: t) h Q) := en_arraylength mm91 dX6_step_52
theorem i91_53 {d l0 l1 l2 l3 l4 t h Q} : Ev d 91 53 [l0, l1, l2, l3, l4] t h Q = Ev d 91 54 [l0, l1, l2, l3, l4] (.int 1 :: t) h Q := en_iconst mm91 dX6_step_53 (by decide)
theorem i91_54 {d l0 l1 l2 l3 l4 t x y h Q} : Ev d 91 54 [l0, l1, l2, l3, l4] (.int y :: .int x :: t) h Q = Ev d 91 55 [l0, l1, l2, l3, l4] (.int (x - y) :: t) h Q := en_isub mm91 dX6_step_54
theorem i91_55 {d l0 l1 l2 l3 l4 t x y h Q} : Ev d 91 55 [l0, l1, l2, l3, l4] (.int y :: .int x :: t) h Q = if x = y then Ev d 91 58 [l0, l1, l2, l3, l4] t h Q else Ev d 91 62 [l0, l1, l2, l3, l4] t h Q := en_ic_ne mm91 dX6_step_55 rfl
theorem i91_58 {d l0 l1 l2 l3 l4 t h Q} : Ev d 91 58 [l0, l1, l2, l3, l4] t h Q = Ev d 91 59 [l0, l1, l2, l3, l4] (.int (-1) :: t) h Q := en_iconst mm91 dX6_step_58 (by decide)
theorem i91_59 {d l0 l1 l2 l3 l4 t h Q} : Ev d 91 59 [l0, l1, l2, l3, l4] t h Q = Ev d 91 65 [l0, l1, l2, l3, l4] t h Q := en_goto mm91 dX6_step_59 rfl
theorem i91_62 {d l0 l2 l3 l4 t x h Q} : Ev d 91 62 [l0, some (.int x), l2, l3, l4] t h Q = Ev d 91 63 [l0, some (.int x), l2, l3, l4] (.int x :: t) h Q := en_iload_n mm91 dX6_step_62 rfl
theorem i91_63 {d l0 l1 l2 l3 l4 t h Q} : Ev d 91 63 [l0, l1, l2, l3, l4] t h Q = Ev d 91 64 [l0, l1, l2, l3, l4] (.int 1 :: t) h Q := en_iconst mm91 dX6_step_63 (by decide)
theorem i91_64 {d l0 l1 l2 l3 l4 t x y h Q} : Ev d 91 64 [l0, l1, l2, l3, l4] (.int y :: .int x :: t) h Q = Ev d 91 65 [l0, l1, l2, l3, l4] (.int (x + y) :: t) h Q := en_iadd mm91 dX6_step_64
theorem i91_65 {d l0 l1 l2 l3 l4 t x h Q} : Ev d 91 65 [l0, l1, l2, l3, l4] (.int x :: t) h Q = Ev d 91 67 [l0, l1, l2, nl l3, some (.int x)] t h Q := en_istore mm91 dX6_step_65 (of_decide_eq_true rfl) rfl
theorem i91_67 {d a l0 l1 l3 l4 t h Q} : Ev d 91 67 [l0, l1, some (.ref a), l3, l4] t h Q = Ev d 91 68 [l0, l1, some (.ref a), l3, l4] (.ref a :: t) h Q := en_aload_n mm91 dX6_step_67 rfl
theorem i91_68 {d a l0 l1 l2 l3 l4 t h Q} : Ev d 91 68 [l0, l1, l2, l3, l4] (.ref a :: t) h Q = (hk h a = 20 ∧ Ev d 91 71 [l0, l1, l2, l3, l4] (hF h a 1 :: t) h Q) := en_getfield (cj := 9) mm91 dX6_step_68 (by decide +kernel)
theorem i91_71 {d a l1 l2 l3 l4 t h Q} : Ev d 91 71 [some (.ref a), l1, l2, l3, l4] t h Q = Ev d 91 72 [some (.ref a), l1, l2, l3, l4] (.ref a :: t) h Q := en_aload_n mm91 dX6_step_71 rfl
theorem i91_72 {d a l0 l1 l2 l3 l4 t h Q} : Ev d 91 72 [l0, l1, l2, l3, l4] (.ref a :: t) h Q = (hk h a = 7 ∧ Ev d 91 75 [l0, l1, l2, l3, l4] (hF h a 5 :: t) h Q) := en_getfield (cj := 6) mm91 dX6_step_72 (by decide +kernel)
theorem i91_75 {d l0 l2 l3 l4 t x h Q} : Ev d 91 75 [l0, some (.int x), l2, l3, l4] t h Q = Ev d 91 76 [l0, some (.int x), l2, l3, l4] (.int x :: t) h Q := en_iload_n mm91 dX6_step_75 rfl
theorem i91_76 {d a j l0 l1 l2 l3 l4 t h Q} : Ev d 91 76 [l0, l1, l2, l3, l4] (.int j :: .ref a :: t) h Q = ((13 ≤ hk h a ∧ hk h a ≤ 16) ∧ inb j (hl h a) ∧ Ev d 91 77 [l0, l1, l2, l3, l4] (orv (hR h a j.toNatClampNeg) :: t) h Q) := en_aaload mm91 dX6_step_76
theorem i91_77 {d l0 l1 l2 l3 l4 t h Q} : Ev d 91 77 [l0, l1, l2, l3, l4] t h Q = Ev d 91 78 [l0, l1, l2, l3, l4] (.int 4 :: t) h Q := en_iconst mm91 dX6_step_77 (by decide)
theorem i91_78 {d a j l0 l1 l2 l3 l4 t h Q} : Ev d 91 78 [l0, l1, l2, l3, l4] (.int j :: .ref a :: t) h Q = (hk h a = 10 ∧ inb j (hl h a) ∧ Ev d 91 79 [l0, l1, l2, l3, l4] (.int (hA h a j.toNatClampNeg) :: t) h Q) := en_iaload mm91 dX6_step_78
theorem i91_79 {d l0 l1 l2 l4 t x h Q} : Ev d 91 79 [l0, l1, l2, some (.int x), l4] t h Q = Ev d 91 80 [l0, l1, l2, some (.int x), l4] (.int x :: t) h Q := en_iload_n mm91 dX6_step_79 rfl
theorem i91_80 {d l0 l1 l2 l3 l4 t x y h Q} : Ev d 91 80 [l0, l1, l2, l3, l4] (.int y :: .int x :: t) h Q = Ev d 91 81 [l0, l1, l2, l3, l4] (.int (x + y) :: t) h Q := en_iadd mm91 dX6_step_80
theorem i91_81 {d l0 l1 l2 l3 l4 t x y h Q} : Ev d 91 81 [l0, l1, l2, l3, l4] (.int y :: .int x :: t) h Q = if x ≤ y then Ev d 91 93 [l0, l1, l2, l3, l4] t h Q else Ev d 91 84 [l0, l1, l2, l3, l4] t h Q := en_ic_le mm91 dX6_step_81 rfl
theorem i91_84 {d a l1 l2 l3 l4 t h Q} : Ev d 91 84 [some (.ref a), l1, l2, l3, l4] t h Q = Ev d 91 85 [some (.ref a), l1, l2, l3, l4] (.ref a :: t) h Q := en_aload_n mm91 dX6_step_84 rfl
theorem i91_85 {d a l0 l1 l3 l4 t h Q} : Ev d 91 85 [l0, l1, some (.ref a), l3, l4] t h Q = Ev d 91 86 [l0, l1, some (.ref a), l3, l4] (.ref a :: t) h Q := en_aload_n mm91 dX6_step_85 rfl
theorem i91_86 {d l0 l1 l2 l3 l4 t h Q} : Ev d 91 86 [l0, l1, l2, l3, l4] t h Q = Ev d 91 87 [l0, l1, l2, l3, l4] (.int 5 :: t) h Q := en_iconst mm91 dX6_step_86 (by decide)
theorem i91_87 {d a l0 l1 l2 l3 l4 x0 x1 h Q} : Ev (d + 1) 91 87 [l0, l1, l2, l3, l4] [x0, x1, .ref a] h Q = (hk h a = 7 ∧ EvM d 89 [.ref a, x1, x0] h (konN (d + 1) 91 90 [l0, l1, l2, l3, l4] [] Q)) := en_virtualN mm91 dX6_step_87 (by decide +kernel : ml _ _ = some (2, 89)) (by decide) (rfl : mtab[89]? = some _) (by decide +kernel : npar _ = 2) rfl (by decide) rfl (of_decide_eq_true rfl) (len_cat (of_decide_eq_true rfl)) rfl rfl rfl
theorem i91_90 {d l0 l1 l2 l3 l4 t h Q} : Ev d 91 90 [l0, l1, l2, l3, l4] t h Q = Ev d 91 149 [l0, l1, l2, l3, l4] t h Q := en_goto mm91 dX6_step_90 rfl
theorem i91_93 {d a l0 l1 l3 l4 t h Q} : Ev d 91 93 [l0, l1, some (.ref a), l3, l4] t h Q = Ev d 91 94 [l0, l1, some (.ref a), l3, l4] (.ref a :: t) h Q := en_aload_n mm91 dX6_step_93 rfl
theorem i91_94 {d a l0 l1 l2 l3 l4 t h Q} : Ev d 91 94 [l0, l1, l2, l3, l4] (.ref a :: t) h Q = (hk h a = 20 ∧ Ev d 91 97 [l0, l1, l2, l3, l4] (hF h a 1 :: t) h Q) := en_getfield (cj := 9) mm91 dX6_step_94 (by decide +kernel)
theorem i91_97 {d a l1 l2 l3 l4 t h Q} : Ev d 91 97 [some (.ref a), l1, l2, l3, l4] t h Q = Ev d 91 98 [some (.ref a), l1, l2, l3, l4] (.ref a :: t) h Q := en_aload_n mm91 dX6_step_97 rfl
theorem i91_98 {d a l0 l1 l2 l3 l4 t h Q} : Ev d 91 98 [l0, l1, l2, l3, l4] (.ref a :: t) h Q = (hk h a = 7 ∧ Ev d 91 101 [l0, l1, l2, l3, l4] (hF h a 5 :: t) h Q) := en_getfield (cj := 6) mm91 dX6_step_98 (by decide +kernel)
theorem i91_101 {d l0 l2 l3 l4 t x h Q} : Ev d 91 101 [l0, some (.int x), l2, l3, l4] t h Q = Ev d 91 102 [l0, some (.int x), l2, l3, l4] (.int x :: t) h Q := en_iload_n mm91 dX6_step_101 rfl
theorem i91_102 {d a j l0 l1 l2 l3 l4 t h Q} : Ev d 91 102 [l0, l1, l2, l3, l4] (.int j :: .ref a :: t) h Q = ((13 ≤ hk h a ∧ hk h a ≤ 16) ∧ inb j (hl h a) ∧ Ev d 91 103 [l0, l1, l2, l3, l4] (orv (hR h a j.toNatClampNeg) :: t) h Q) := en_aaload mm91 dX6_step_102
theorem i91_103 {d l0 l1 l2 l3 l4 t h Q} : Ev d 91 103 [l0, l1, l2, l3, l4] t h Q = Ev d 91 104 [l0, l1, l2, l3, l4] (.int 3 :: t) h Q := en_iconst mm91 dX6_step_103 (by decide)
theorem i91_104 {d a j l0 l1 l2 l3 l4 t h Q} : Ev d 91 104 [l0, l1, l2, l3, l4] (.int j :: .ref a :: t) h Q = (hk h a = 10 ∧ inb j (hl h a) ∧ Ev d 91 105 [l0, l1, l2, l3, l4] (.int (hA h a j.toNatClampNeg) :: t) h Q) := en_iaload mm91 dX6_step_104
theorem i91_105 {d l0 l1 l2 l4 t x h Q} : Ev d 91 105 [l0, l1, l2, some (.int x), l4] t h Q = Ev d 91 106 [l0, l1, l2, some (.int x), l4] (.int x :: t) h Q := en_iload_n mm91 dX6_step_105 rfl
theorem i91_106 {d l0 l1 l2 l3 l4 t x y h Q} : Ev d 91 106 [l0, l1, l2, l3, l4] (.int y :: .int x :: t) h Q = Ev d 91 107 [l0, l1, l2, l3, l4] (.int (x + y) :: t) h Q := en_iadd mm91 dX6_step_106
theorem i91_107 {d l0 l1 l2 l3 l4 t x y h Q} : Ev d 91 107 [l0, l1, l2, l3, l4] (.int y :: .int x :: t) h Q = if x < y then Ev d 91 149 [l0, l1, l2, l3, l4] t h Q else Ev d 91 110 [l0, l1, l2, l3, l4] t h Q := en_ic_lt mm91 dX6_step_107 rfl
theorem i91_110 {d a l1 l2 l3 l4 t h Q} : Ev d 91 110 [some (.ref a), l1, l2, l3, l4] t h Q = Ev d 91 111 [some (.ref a), l1, l2, l3, l4] (.ref a :: t) h Q := en_aload_n mm91 dX6_step_110 rfl
theorem i91_111 {d l0 l1 l2 l3 t x h Q} : Ev d 91 111 [l0, l1, l2, l3, some (.int x)] t h Q = Ev d 91 113 [l0, l1, l2, l3, some (.int x)] (.int x :: t) h Q := en_iload mm91 dX6_step_111 rfl
theorem i91_113 {d a l0 l1 l2 l3 l4 x0 h Q} : Ev (d + 1) 91 113 [l0, l1, l2, l3, l4] [x0, .ref a] h Q = (hk h a = 7 ∧ EvM d 87 [.ref a, x0] h (konN (d + 1) 91 116 [l0, l1, l2, l3, l4] [] Q)) := en_virtualN mm91 dX6_step_113 (by decide +kernel : ml _ _ = some (2, 87)) (by decide) (rfl : mtab[87]? = some _) (by decide +kernel : npar _ = 1) rfl (by decide) rfl (of_decide_eq_true rfl) (len_cat (of_decide_eq_true rfl)) rfl rfl rfl
theorem i91_116 {d l0 l1 l2 l3 l4 t x h Q} : Ev d 91 116 [l0, l1, l2, l3, l4] (.int x :: t) h Q = if 0 ≤ x then Ev d 91 149 [l0, l1, l2, l3, l4] t h Q else Ev d 91 119 [l0, l1, l2, l3, l4] t h Q := en_if_ge mm91 dX6_step_116 rfl
theorem i91_119 {d a l0 l1 l3 l4 t h Q} : Ev d 91 119 [l0, l1, some (.ref a), l3, l4] t h Q = Ev d 91 120 [l0, l1, some (.ref a), l3, l4] (.ref a :: t) h Q := en_aload_n mm91 dX6_step_119 rfl
theorem i91_120 {d l0 l1 l2 l3 t x h Q} : Ev d 91 120 [l0, l1, l2, l3, some (.int x)] t h Q = Ev d 91 122 [l0, l1, l2, l3, some (.int x)] (.int x :: t) h Q := en_iload mm91 dX6_step_120 rfl
theorem i91_122 {d a l0 l1 l2 l3 l4 t x h Q} : Ev d 91 122 [l0, l1, l2, l3, l4] (.int x :: .ref a :: t) h Q = (hk h a = 20 ∧ Ev d 91 125 [l0, l1, l2, l3, l4] t (wF h a 3 (.int x)) Q) := en_putfield (cj := 9) mm91 dX6_step_122 (by decide +kernel) rfl
theorem i91_125 {d l0 l1 l2 l3 t x h Q} : Ev d 91 125 [l0, l1, l2, l3, some (.int x)] t h Q = Ev d 91 127 [l0, l1, l2, l3, some (.int x)] (.int x :: t) h Q := en_iload mm91 dX6_step_125 rfl
theorem i91_127 {d l0 l1 l2 l3 l4 t x h Q} : Ev d 91 127 [l0, l1, l2, l3, l4] (.int x :: t) h Q = if x < 0 then Ev d 91 131 [l0, l1, l2, l3, l4] t h Q else Ev d 91 130 [l0, l1, l2, l3, l4] t h Q := en_if_lt mm91 dX6_step_127 rfl
theorem i91_130 {d l0 l1 l2 l3 l4 h Q} : Ev d 91 130 [l0, l1, l2, l3, l4] [] h Q = Q (.inl none) h := en_return mm91 dX6_step_130 rfl
theorem i91_131 {d a l0 l1 l3 l4 t h Q} : Ev d 91 131 [l0, l1, some (.ref a), l3, l4] t h Q = Ev d 91 132 [l0, l1, some (.ref a), l3, l4] (.ref a :: t) h Q := en_aload_n mm91 dX6_step_131 rfl
theorem i91_132 {d l0 l1 l2 l3 l4 t h Q} : Ev d 91 132 [l0, l1, l2, l3, l4] t h Q = Ev d 91 133 [l0, l1, l2, l3, l4] (.int 2 :: t) h Q := en_iconst mm91 dX6_step_132 (by decide)
theorem i91_133 {d a l0 l1 l2 l3 l4 t x h Q} : Ev d 91 133 [l0, l1, l2, l3, l4] (.int x :: .ref a :: t) h Q = (hk h a = 20 ∧ Ev d 91 136 [l0, l1, l2, l3, l4] t (wF h a 2 (.int x)) Q) := en_putfield (cj := 9) mm91 dX6_step_133 (by decide +kernel) rfl
theorem i91_136 {d a l1 l2 l3 l4 t h Q} : Ev d 91 136 [some (.ref a), l1, l2, l3, l4] t h Q = Ev d 91 137 [some (.ref a), l1, l2, l3, l4] (.ref a :: t) h Q := en_aload_n mm91 dX6_step_136 rfl
theorem i91_137 {d a l0 l1 l3 l4 t h Q} : Ev d 91 137 [l0, l1, some (.ref a), l3, l4] t h Q = Ev d 91 138 [l0, l1, some (.ref a), l3, l4] (.ref a :: t) h Q := en_aload_n mm91 dX6_step_137 rfl
theorem i91_138 {d a l0 l1 l2 l3 l4 t h Q} : Ev d 91 138 [l0, l1, l2, l3, l4] (.ref a :: t) h Q = (hk h a = 20 ∧ Ev d 91 141 [l0, l1, l2, l3, l4] (hF h a 0 :: t) h Q) := en_getfield (cj := 9) mm91 dX6_step_138 (by decide +kernel)
theorem i91_141 {d a l1 l2 l3 l4 t h Q} : Ev d 91 141 [some (.ref a), l1, l2, l3, l4] t h Q = Ev d 91 142 [some (.ref a), l1, l2, l3, l4] (.ref a :: t) h Q := en_aload_n mm91 dX6_step_141 rfl
theorem i91_142 {d a l0 l1 l2 l3 l4 t h Q} : Ev d 91 142 [l0, l1, l2, l3, l4] (.ref a :: t) h Q = (hk h a = 7 ∧ Ev d 91 145 [l0, l1, l2, l3, l4] (hF h a 1 :: t) h Q) := en_getfield (cj := 6) mm91 dX6_step_142 (by decide +kernel)
theorem i91_145 {d l0 l1 l2 l3 l4 t x y h Q} : Ev d 91 145 [l0, l1, l2, l3, l4] (.int y :: .int x :: t) h Q = Ev d 91 146 [l0, l1, l2, l3, l4] (.int (x * y) :: t) h Q := en_imul mm91 dX6_step_145
theorem i91_146 {d a l0 l1 l2 l3 l4 t x h Q} : Ev d 91 146 [l0, l1, l2, l3, l4] (.int x :: .ref a :: t) h Q = (hk h a = 7 ∧ Ev d 91 149 [l0, l1, l2, l3, l4] t (wF h a 3 (.int x)) Q) := en_putfield (cj := 6) mm91 dX6_step_146 (by decide +kernel) rfl
theorem i91_149 {d l0 l1 l2 l3 l4 h Q} : Ev d 91 149 [l0, l1, l2, l3, l4] [] h Q = Q (.inl none) h := en_return mm91 dX6_step_149 rfl
abbrev em92 : MI := (yX6_tick, cX6_tick, 5, none, 6, [])
theorem mm92 : mtab[92]? = some em92 := rfl
theorem in92 {d : Nat} {h : AH} {K : AO → AH → Prop} {v0 : Nat} : EvM d 92 [(.ref v0)] h K = Ev d 92 0 [some (.ref v0), none, none, none, none] [] h K := evm_in mm92 (of_decide_eq_true rfl) rfl
theorem i92_0 {d l0 l1 l2 l3 l4 t h Q} : Ev d 92 0 [l0, l1, l2, l3, l4] t h Q = Ev d 92 1 [l0, l1, l2, l3, l4] (.int 0 :: t) h Q := en_iconst mm92 dX6_tick_0 (by decide)
theorem i92_1 {d l0 l1 l2 l3 l4 t x h Q} : Ev d 92 1 [l0, l1, l2, l3, l4] (.int x :: t) h Q = Ev d 92 2 [nl l0, some (.int x), l2, l3, l4] t h Q := en_istore_n mm92 dX6_tick_1 (of_decide_eq_true rfl) rfl
theorem i92_2 {d l0 l2 l3 l4 t x h Q} : Ev d 92 2 [l0, some (.int x), l2, l3, l4] t h Q = Ev d 92 3 [l0, some (.int x), l2, l3, l4] (.int x :: t) h Q := en_iload_n mm92 dX6_tick_2 rfl
theorem i92_3 {d a l1 l2 l3 l4 t h Q} : Ev d 92 3 [some (.ref a), l1, l2, l3, l4] t h Q = Ev d 92 4 [some (.ref a), l1, l2, l3, l4] (.ref a :: t) h Q := en_aload_n mm92 dX6_tick_3 rfl
theorem i92_4 {d a l0 l1 l2 l3 l4 t h Q} : Ev d 92 4 [l0, l1, l2, l3, l4] (.ref a :: t) h Q = (hk h a = 7 ∧ Ev d 92 7 [l0, l1, l2, l3, l4] (hF h a 5 :: t) h Q) := en_getfield (cj := 6) mm92 dX6_tick_4 (by decide +kernel)
theorem i92_7 {d a l0 l1 l2 l3 l4 t h Q} : Ev d 92 7 [l0, l1, l2, l3, l4] (.ref a :: t) h Q = ((10 ≤ hk h a ∧ hk h a ≤ 16) ∧ Ev d 92 8 [l0, l1, l2, l3, l4] (.int (nI (hl h a)) :: t) h Q) := en_arraylength mm92 dX6_tick_7
theorem i92_8 {d l0 l1 l2 l3 l4 t x y h Q} : Ev d 92 8 [l0, l1, l2, l3, l4] (.int y :: .int x :: t) h Q = if y ≤ x then Ev d 92 66 [l0, l1, l2, l3, l4] t h Q else Ev d 92 11 [l0, l1, l2, l3, l4] t h Q := en_ic_ge mm92 dX6_tick_8 rfl
theorem i92_11 {d a l1 l2 l3 l4 t h Q} : Ev d 92 11 [some (.ref a), l1, l2, l3, l4] t h Q = Ev d 92 12 [some (.ref a), l1, l2, l3, l4] (.ref a :: t) h Q := en_aload_n mm92 dX6_tick_11 rfl
theorem i92_12 {d a l0 l1 l2 l3 l4 t h Q} : Ev d 92 12 [l0, l1, l2, l3, l4] (.ref a :: t) h Q = (hk h a = 7 ∧ Ev d 92 15 [l0, l1, l2, l3, l4] (hF h a 6 :: t) h Q) := en_getfield (cj := 6) mm92 dX6_tick_12 (by decide +kernel)
theorem i92_15 {d l0 l2 l3 l4 t x h Q} : Ev d 92 15 [l0, some (.int x), l2, l3, l4] t h Q = Ev d 92 16 [l0, some (.int x), l2, l3, l4] (.int x :: t) h Q := en_iload_n mm92 dX6_tick_15 rfl
theorem i92_16 {d a j l0 l1 l2 l3 l4 t h Q} : Ev d 92 16 [l0, l1, l2, l3, l4] (.int j :: .ref a :: t) h Q = (hk h a = 10 ∧ inb j (hl h a) ∧ Ev d 92 17 [l0, l1, l2, l3, l4] (.int (hA h a j.toNatClampNeg) :: t) h Q) := en_iaload mm92 dX6_tick_16
theorem i92_17 {d a l1 l2 l3 l4 t h Q} : Ev d 92 17 [some (.ref a), l1, l2, l3, l4] t h Q = Ev d 92 18 [some (.ref a), l1, l2, l3, l4] (.ref a :: t) h Q := en_aload_n mm92 dX6_tick_17 rfl
theorem i92_18 {d a l0 l1 l2 l3 l4 t h Q} : Ev d 92 18 [l0, l1, l2, l3, l4] (.ref a :: t) h Q = (hk h a = 7 ∧ Ev d 92 21 [l0, l1, l2, l3, l4] (hF h a 5 :: t) h Q) := en_getfield (cj := 6) mm92 dX6_tick_18 (by decide +kernel)
theorem i92_21 {d l0 l2 l3 l4 t x h Q} : Ev d 92 21 [l0, some (.int x), l2, l3, l4] t h Q = Ev d 92 22 [l0, some (.int x), l2, l3, l4] (.int x :: t) h Q := en_iload_n mm92 dX6_tick_21 rfl
theorem i92_22 {d a j l0 l1 l2 l3 l4 t h Q} : Ev d 92 22 [l0, l1, l2, l3, l4] (.int j :: .ref a :: t) h Q = ((13 ≤ hk h a ∧ hk h a ≤ 16) ∧ inb j (hl h a) ∧ Ev d 92 23 [l0, l1, l2, l3, l4] (orv (hR h a j.toNatClampNeg) :: t) h Q) := en_aaload mm92 dX6_tick_22
theorem i92_23 {d l0 l1 l2 l3 l4 t h Q} : Ev d 92 23 [l0, l1, l2, l3, l4] t h Q = Ev d 92 24 [l0, l1, l2, l3, l4] (.int 0 :: t) h Q := en_iconst mm92 dX6_tick_23 (by decide)
theorem i92_24 {d a j l0 l1 l2 l3 l4 t h Q} : Ev d 92 24 [l0, l1, l2, l3, l4] (.int j :: .ref a :: t) h Q = (hk h a = 10 ∧ inb j (hl h a) ∧ Ev d 92 25 [l0, l1, l2, l3, l4] (.int (hA h a j.toNatClampNeg) :: t) h Q) := en_iaload mm92 dX6_tick_24
theorem i92_25 {d l0 l1 l2 l3 l4 t x y h Q} : Ev d 92 25 [l0, l1, l2, l3, l4] (.int y :: .int x :: t) h Q = if y ≤ x then Ev d 92 60 [l0, l1, l2, l3, l4] t h Q else Ev d 92 28 [l0, l1, l2, l3, l4] t h Q := en_ic_ge mm92 dX6_tick_25 rfl
theorem i92_28 {d a l1 l2 l3 l4 t h Q} : Ev d 92 28 [some (.ref a), l1, l2, l3, l4] t h Q = Ev d 92 29 [some (.ref a), l1, l2, l3, l4] (.ref a :: t) h Q := en_aload_n mm92 dX6_tick_28 rfl
theorem i92_29 {d a l0 l1 l2 l3 l4 t h Q} : Ev d 92 29 [l0, l1, l2, l3, l4] (.ref a :: t) h Q = (hk h a = 7 ∧ Ev d 92 32 [l0, l1, l2, l3, l4] (hF h a 6 :: t) h Q) := en_getfield (cj := 6) mm92 dX6_tick_29 (by decide +kernel)
theorem i92_32 {d l0 l2 l3 l4 t x h Q} : Ev d 92 32 [l0, some (.int x), l2, l3, l4] t h Q = Ev d 92 33 [l0, some (.int x), l2, l3, l4] (.int x :: t) h Q := en_iload_n mm92 dX6_tick_32 rfl
theorem i92_33 {d a l1 l2 l3 l4 t h Q} : Ev d 92 33 [some (.ref a), l1, l2, l3, l4] t h Q = Ev d 92 34 [some (.ref a), l1, l2, l3, l4] (.ref a :: t) h Q := en_aload_n mm92 dX6_tick_33 rfl
theorem i92_34 {d a l0 l1 l2 l3 l4 t h Q} : Ev d 92 34 [l0, l1, l2, l3, l4] (.ref a :: t) h Q = (hk h a = 7 ∧ Ev d 92 37 [l0, l1, l2, l3, l4] (hF h a 5 :: t) h Q) := en_getfield (cj := 6) mm92 dX6_tick_34 (by decide +kernel)
theorem i92_37 {d l0 l2 l3 l4 t x h Q} : Ev d 92 37 [l0, some (.int x), l2, l3, l4] t h Q = Ev d 92 38 [l0, some (.int x), l2, l3, l4] (.int x :: t) h Q := en_iload_n mm92 dX6_tick_37 rfl
theorem i92_38 {d a j l0 l1 l2 l3 l4 t h Q} : Ev d 92 38 [l0, l1, l2, l3, l4] (.int j :: .ref a :: t) h Q = ((13 ≤ hk h a ∧ hk h a ≤ 16) ∧ inb j (hl h a) ∧ Ev d 92 39 [l0, l1, l2, l3, l4] (orv (hR h a j.toNatClampNeg) :: t) h Q) := en_aaload mm92 dX6_tick_38
theorem i92_39 {d l0 l1 l2 l3 l4 t h Q} : Ev d 92 39 [l0, l1, l2, l3, l4] t h Q = Ev d 92 40 [l0, l1, l2, l3, l4] (.int 0 :: t) h Q := en_iconst mm92 dX6_tick_39 (by decide)
theorem i92_40 {d a j l0 l1 l2 l3 l4 t h Q} : Ev d 92 40 [l0, l1, l2, l3, l4] (.int j :: .ref a :: t) h Q = (hk h a = 10 ∧ inb j (hl h a) ∧ Ev d 92 41 [l0, l1, l2, l3, l4] (.int (hA h a j.toNatClampNeg) :: t) h Q) := en_iaload mm92 dX6_tick_40
theorem i92_41 {d a l1 l2 l3 l4 t h Q} : Ev d 92 41 [some (.ref a), l1, l2, l3, l4] t h Q = Ev d 92 42 [some (.ref a), l1, l2, l3, l4] (.ref a :: t) h Q := en_aload_n mm92 dX6_tick_41 rfl
theorem i92_42 {d a l0 l1 l2 l3 l4 t h Q} : Ev d 92 42 [l0, l1, l2, l3, l4] (.ref a :: t) h Q = (hk h a = 7 ∧ Ev d 92 45 [l0, l1, l2, l3, l4] (hF h a 6 :: t) h Q) := en_getfield (cj := 6) mm92 dX6_tick_42 (by decide +kernel)
theorem i92_45 {d l0 l2 l3 l4 t x h Q} : Ev d 92 45 [l0, some (.int x), l2, l3, l4] t h Q = Ev d 92 46 [l0, some (.int x), l2, l3, l4] (.int x :: t) h Q := en_iload_n mm92 dX6_tick_45 rfl
theorem i92_46 {d a j l0 l1 l2 l3 l4 t h Q} : Ev d 92 46 [l0, l1, l2, l3, l4] (.int j :: .ref a :: t) h Q = (hk h a = 10 ∧ inb j (hl h a) ∧ Ev d 92 47 [l0, l1, l2, l3, l4] (.int (hA h a j.toNatClampNeg) :: t) h Q) := en_iaload mm92 dX6_tick_46
theorem i92_47 {d a l1 l2 l3 l4 t h Q} : Ev d 92 47 [some (.ref a), l1, l2, l3, l4] t h Q = Ev d 92 48 [some (.ref a), l1, l2, l3, l4] (.ref a :: t) h Q := en_aload_n mm92 dX6_tick_47 rfl
theorem i92_48 {d a l0 l1 l2 l3 l4 t h Q} : Ev d 92 48 [l0, l1, l2, l3, l4] (.ref a :: t) h Q = (hk h a = 7 ∧ Ev d 92 51 [l0, l1, l2, l3, l4] (hF h a 5 :: t) h Q) := en_getfield (cj := 6) mm92 dX6_tick_48 (by decide +kernel)
theorem i92_51 {d l0 l2 l3 l4 t x h Q} : Ev d 92 51 [l0, some (.int x), l2, l3, l4] t h Q = Ev d 92 52 [l0, some (.int x), l2, l3, l4] (.int x :: t) h Q := en_iload_n mm92 dX6_tick_51 rfl
theorem i92_52 {d a j l0 l1 l2 l3 l4 t h Q} : Ev d 92 52 [l0, l1, l2, l3, l4] (.int j :: .ref a :: t) h Q = ((13 ≤ hk h a ∧ hk h a ≤ 16) ∧ inb j (hl h a) ∧ Ev d 92 53 [l0, l1, l2, l3, l4] (orv (hR h a j.toNatClampNeg) :: t) h Q) := en_aaload mm92 dX6_tick_52
theorem i92_53 {d l0 l1 l2 l3 l4 t h Q} : Ev d 92 53 [l0, l1, l2, l3, l4] t h Q = Ev d 92 54 [l0, l1, l2, l3, l4] (.int 1 :: t) h Q := en_iconst mm92 dX6_tick_53 (by decide)
theorem i92_54 {d a j l0 l1 l2 l3 l4 t h Q} : Ev d 92 54 [l0, l1, l2, l3, l4] (.int j :: .ref a :: t) h Q = (hk h a = 10 ∧ inb j (hl h a) ∧ Ev d 92 55 [l0, l1, l2, l3, l4] (.int (hA h a j.toNatClampNeg) :: t) h Q) := en_iaload mm92 dX6_tick_54
theorem i92_55 {d l0 l1 l2 l3 l4 t x y h Q} : Ev d 92 55 [l0, l1, l2, l3, l4] (.int y :: .int x :: t) h Q = Ev d 92 56 [l0, l1, l2, l3, l4] (.int (x + y) :: t) h Q := en_iadd mm92 dX6_tick_55
theorem i92_56 {d l0 l1 l2 l3 l4 x x0 x1 y h Q} : Ev (d + 1) 92 56 [l0, l1, l2, l3, l4] [.int y, .int x, x0, x1] h Q = Ev (d + 1) 92 59 [l0, l1, l2, l3, l4] [.int (if y < x then y else x), x0, x1] h Q := en_min mm92 dX6_tick_56 (by decide +kernel) (of_decide_eq_true rfl)
theorem i92_59 {d a j l0 l1 l2 l3 l4 t x h Q} : Ev d 92 59 [l0, l1, l2, l3, l4] (.int x :: .int j :: .ref a :: t) h Q = (hk h a = 10 ∧ inb j (hl h a) ∧ Ev d 92 60 [l0, l1, l2, l3, l4] t (wA h a (upd (hA h a) j.toNatClampNeg x)) Q) := en_iastore mm92 dX6_tick_59
theorem i92_60 {d l0 l2 l3 l4 t x h Q} : Ev d 92 60 [l0, some (.int x), l2, l3, l4] t h Q = Ev d 92 63 [nl l0, some (.int (x + 1)), l2, l3, l4] t h Q := en_iinc mm92 dX6_tick_60 rfl (by decide) rfl
theorem i92_63 {d l0 l1 l2 l3 l4 t h Q} : Ev d 92 63 [l0, l1, l2, l3, l4] t h Q = Ev d 92 2 [l0, l1, l2, l3, l4] t h Q := en_goto mm92 dX6_tick_63 rfl
theorem i92_66 {d l0 l1 l2 l3 l4 t h Q} : Ev d 92 66 [l0, l1, l2, l3, l4] t h Q = Ev d 92 67 [l0, l1, l2, l3, l4] (.int 0 :: t) h Q := en_iconst mm92 dX6_tick_66 (by decide)
theorem i92_67 {d l0 l1 l2 l3 l4 t x h Q} : Ev d 92 67 [l0, l1, l2, l3, l4] (.int x :: t) h Q = Ev d 92 68 [nl l0, some (.int x), l2, l3, l4] t h Q := en_istore_n mm92 dX6_tick_67 (of_decide_eq_true rfl) rfl
theorem i92_68 {d l0 l2 l3 l4 t x h Q} : Ev d 92 68 [l0, some (.int x), l2, l3, l4] t h Q = Ev d 92 69 [l0, some (.int x), l2, l3, l4] (.int x :: t) h Q := en_iload_n mm92 dX6_tick_68 rfl
theorem i92_69 {d a l1 l2 l3 l4 t h Q} : Ev d 92 69 [some (.ref a), l1, l2, l3, l4] t h Q = Ev d 92 70 [some (.ref a), l1, l2, l3, l4] (.ref a :: t) h Q := en_aload_n mm92 dX6_tick_69 rfl
theorem i92_70 {d a l0 l1 l2 l3 l4 t h Q} : Ev d 92 70 [l0, l1, l2, l3, l4] (.ref a :: t) h Q = (hk h a = 7 ∧ Ev d 92 73 [l0, l1, l2, l3, l4] (hF h a 5 :: t) h Q) := en_getfield (cj := 6) mm92 dX6_tick_70 (by decide +kernel)
theorem i92_73 {d a l0 l1 l2 l3 l4 t h Q} : Ev d 92 73 [l0, l1, l2, l3, l4] (.ref a :: t) h Q = ((10 ≤ hk h a ∧ hk h a ≤ 16) ∧ Ev d 92 74 [l0, l1, l2, l3, l4] (.int (nI (hl h a)) :: t) h Q) := en_arraylength mm92 dX6_tick_73
theorem i92_74 {d l0 l1 l2 l3 l4 t x y h Q} : Ev d 92 74 [l0, l1, l2, l3, l4] (.int y :: .int x :: t) h Q = if y ≤ x then Ev d 92 202 [l0, l1, l2, l3, l4] t h Q else Ev d 92 77 [l0, l1, l2, l3, l4] t h Q := en_ic_ge mm92 dX6_tick_74 rfl
theorem i92_77 {d a l1 l2 l3 l4 t h Q} : Ev d 92 77 [some (.ref a), l1, l2, l3, l4] t h Q = Ev d 92 78 [some (.ref a), l1, l2, l3, l4] (.ref a :: t) h Q := en_aload_n mm92 dX6_tick_77 rfl
theorem i92_78 {d l0 l2 l3 l4 t x h Q} : Ev d 92 78 [l0, some (.int x), l2, l3, l4] t h Q = Ev d 92 79 [l0, some (.int x), l2, l3, l4] (.int x :: t) h Q := en_iload_n mm92 dX6_tick_78 rfl
theorem i92_79 {d a l0 l1 l2 l3 l4 x0 h Q} : Ev (d + 1) 92 79 [l0, l1, l2, l3, l4] [x0, .ref a] h Q = (hk h a = 7 ∧ EvM d 87 [.ref a, x0] h (konN (d + 1) 92 82 [l0, l1, l2, l3, l4] [] Q)) := en_virtualN mm92 dX6_tick_79 (by decide +kernel : ml _ _ = some (2, 87)) (by decide) (rfl : mtab[87]? = some _) (by decide +kernel : npar _ = 1) rfl (by decide) rfl (of_decide_eq_true rfl) (len_cat (of_decide_eq_true rfl)) rfl rfl rfl
theorem i92_82 {d l0 l1 l2 l3 l4 t x h Q} : Ev d 92 82 [l0, l1, l2, l3, l4] (.int x :: t) h Q = if x < 0 then Ev d 92 196 [l0, l1, l2, l3, l4] t h Q else Ev d 92 85 [l0, l1, l2, l3, l4] t h Q := en_if_lt mm92 dX6_tick_82 rfl
theorem i92_85 {d a l1 l2 l3 l4 t h Q} : Ev d 92 85 [some (.ref a), l1, l2, l3, l4] t h Q = Ev d 92 86 [some (.ref a), l1, l2, l3, l4] (.ref a :: t) h Q := en_aload_n mm92 dX6_tick_85 rfl
theorem i92_86 {d a l0 l1 l2 l3 l4 t h Q} : Ev d 92 86 [l0, l1, l2, l3, l4] (.ref a :: t) h Q = (hk h a = 7 ∧ Ev d 92 89 [l0, l1, l2, l3, l4] (hF h a 6 :: t) h Q) := en_getfield (cj := 6) mm92 dX6_tick_86 (by decide +kernel)
theorem i92_89 {d l0 l2 l3 l4 t x h Q} : Ev d 92 89 [l0, some (.int x), l2, l3, l4] t h Q = Ev d 92 90 [l0, some (.int x), l2, l3, l4] (.int x :: t) h Q := en_iload_n mm92 dX6_tick_89 rfl
theorem i92_90 {d a j l0 l1 l2 l3 l4 t h Q} : Ev d 92 90 [l0, l1, l2, l3, l4] (.int j :: .ref a :: t) h Q = (hk h a = 10 ∧ inb j (hl h a) ∧ Ev d 92 91 [l0, l1, l2, l3, l4] (.int (hA h a j.toNatClampNeg) :: t) h Q) := en_iaload mm92 dX6_tick_90
theorem i92_91 {d a l1 l2 l3 l4 t h Q} : Ev d 92 91 [some (.ref a), l1, l2, l3, l4] t h Q = Ev d 92 92 [some (.ref a), l1, l2, l3, l4] (.ref a :: t) h Q := en_aload_n mm92 dX6_tick_91 rfl
theorem i92_92 {d a l0 l1 l2 l3 l4 t h Q} : Ev d 92 92 [l0, l1, l2, l3, l4] (.ref a :: t) h Q = (hk h a = 7 ∧ Ev d 92 95 [l0, l1, l2, l3, l4] (hF h a 7 :: t) h Q) := en_getfield (cj := 6) mm92 dX6_tick_92 (by decide +kernel)
theorem i92_95 {d a l1 l2 l3 l4 t h Q} : Ev d 92 95 [some (.ref a), l1, l2, l3, l4] t h Q = Ev d 92 96 [some (.ref a), l1, l2, l3, l4] (.ref a :: t) h Q := en_aload_n mm92 dX6_tick_95 rfl
theorem i92_96 {d l0 l2 l3 l4 t x h Q} : Ev d 92 96 [l0, some (.int x), l2, l3, l4] t h Q = Ev d 92 97 [l0, some (.int x), l2, l3, l4] (.int x :: t) h Q := en_iload_n mm92 dX6_tick_96 rfl
theorem i92_97 {d a l0 l1 l2 l3 l4 x0 x2 x3 h Q} : Ev (d + 1) 92 97 [l0, l1, l2, l3, l4] [x0, .ref a, x2, x3] h Q = (hk h a = 7 ∧ EvM d 87 [.ref a, x0] h (konN (d + 1) 92 100 [l0, l1, l2, l3, l4] [x2, x3] Q)) := en_virtualN mm92 dX6_tick_97 (by decide +kernel : ml _ _ = some (2, 87)) (by decide) (rfl : mtab[87]? = some _) (by decide +kernel : npar _ = 1) rfl (by decide) rfl (of_decide_eq_true rfl) (len_cat (of_decide_eq_true rfl)) rfl rfl rfl
theorem i92_100 {d a j l0 l1 l2 l3 l4 t h Q} : Ev d 92 100 [l0, l1, l2, l3, l4] (.int j :: .ref a :: t) h Q = ((13 ≤ hk h a ∧ hk h a ≤ 16) ∧ inb j (hl h a) ∧ Ev d 92 101 [l0, l1, l2, l3, l4] (orv (hR h a j.toNatClampNeg) :: t) h Q) := en_aaload mm92 dX6_tick_100
theorem i92_101 {d a l0 l1 l2 l3 l4 t h Q} : Ev d 92 101 [l0, l1, l2, l3, l4] (.ref a :: t) h Q = (hk h a = 20 ∧ Ev d 92 104 [l0, l1, l2, l3, l4] (hF h a 1 :: t) h Q) := en_getfield (cj := 9) mm92 dX6_tick_101 (by decide +kernel)
theorem i92_104 {d l0 l1 l2 l3 l4 t x y h Q} : Ev d 92 104 [l0, l1, l2, l3, l4] (.int y :: .int x :: t) h Q = if y < x then Ev d 92 110 [l0, l1, l2, l3, l4] t h Q else Ev d 92 107 [l0, l1, l2, l3, l4] t h Q := en_ic_gt mm92 dX6_tick_104 rfl
theorem i92_107 {d l0 l1 l2 l3 l4 t h Q} : Ev d 92 107 [l0, l1, l2, l3, l4] t h Q = Ev d 92 196 [l0, l1, l2, l3, l4] t h Q := en_goto mm92 dX6_tick_107 rfl
theorem i92_110 {d a l1 l2 l3 l4 t h Q} : Ev d 92 110 [some (.ref a), l1, l2, l3, l4] t h Q = Ev d 92 111 [some (.ref a), l1, l2, l3, l4] (.ref a :: t) h Q := en_aload_n mm92 dX6_tick_110 rfl
theorem i92_111 {d a l0 l1 l2 l3 l4 t h Q} : Ev d 92 111 [l0, l1, l2, l3, l4] (.ref a :: t) h Q = (hk h a = 7 ∧ Ev d 92 114 [l0, l1, l2, l3, l4] (hF h a 7 :: t) h Q) := en_getfield (cj := 6) mm92 dX6_tick_111 (by decide +kernel)
theorem i92_114 {d a l1 l2 l3 l4 t h Q} : Ev d 92 114 [some (.ref a), l1, l2, l3, l4] t h Q = Ev d 92 115 [some (.ref a), l1, l2, l3, l4] (.ref a :: t) h Q := en_aload_n mm92 dX6_tick_114 rfl
theorem i92_115 {d l0 l2 l3 l4 t x h Q} : Ev d 92 115 [l0, some (.int x), l2, l3, l4] t h Q = Ev d 92 116 [l0, some (.int x), l2, l3, l4] (.int x :: t) h Q := en_iload_n mm92 dX6_tick_115 rfl
theorem i92_116 {d a l0 l1 l2 l3 l4 x0 x2 h Q} : Ev (d + 1) 92 116 [l0, l1, l2, l3, l4] [x0, .ref a, x2] h Q = (hk h a = 7 ∧ EvM d 87 [.ref a, x0] h (konN (d + 1) 92 119 [l0, l1, l2, l3, l4] [x2] Q)) := en_virtualN mm92 dX6_tick_116 (by decide +kernel : ml _ _ = some (2, 87)) (by decide) (rfl : mtab[87]? = some _) (by decide +kernel : npar _ = 1) rfl (by decide) rfl (of_decide_eq_true rfl) (len_cat (of_decide_eq_true rfl)) rfl rfl rfl
theorem i92_119 {d a j l0 l1 l2 l3 l4 t h Q} : Ev d 92 119 [l0, l1, l2, l3, l4] (.int j :: .ref a :: t) h Q = ((13 ≤ hk h a ∧ hk h a ≤ 16) ∧ inb j (hl h a) ∧ Ev d 92 120 [l0, l1, l2, l3, l4] (orv (hR h a j.toNatClampNeg) :: t) h Q) := en_aaload mm92 dX6_tick_119
theorem i92_120 {d a l0 l1 l2 l3 l4 t h Q} : Ev d 92 120 [l0, l1, l2, l3, l4] (.ref a :: t) h Q = Ev d 92 121 [l0, nl l1, some (.ref a), l3, l4] t h Q := en_astore_n mm92 dX6_tick_120 (of_decide_eq_true rfl) rfl
theorem i92_121 {d a l1 l2 l3 l4 t h Q} : Ev d 92 121 [some (.ref a), l1, l2, l3, l4] t h Q = Ev d 92 122 [some (.ref a), l1, l2, l3, l4] (.ref a :: t) h Q := en_aload_n mm92 dX6_tick_121 rfl
theorem i92_122 {d a l0 l1 l2 l3 l4 t h Q} : Ev d 92 122 [l0, l1, l2, l3, l4] (.ref a :: t) h Q = (hk h a = 7 ∧ Ev d 92 125 [l0, l1, l2, l3, l4] (hF h a 6 :: t) h Q) := en_getfield (cj := 6) mm92 dX6_tick_122 (by decide +kernel)
theorem i92_125 {d l0 l2 l3 l4 t x h Q} : Ev d 92 125 [l0, some (.int x), l2, l3, l4] t h Q = Ev d 92 126 [l0, some (.int x), l2, l3, l4] (.int x :: t) h Q := en_iload_n mm92 dX6_tick_125 rfl
theorem i92_126 {d a j l0 l1 l2 l3 l4 t h Q} : Ev d 92 126 [l0, l1, l2, l3, l4] (.int j :: .ref a :: t) h Q = (hk h a = 10 ∧ inb j (hl h a) ∧ Ev d 92 127 [l0, l1, l2, l3, l4] (.int (hA h a j.toNatClampNeg) :: t) h Q) := en_iaload mm92 dX6_tick_126
theorem i92_127 {d a l0 l1 l3 l4 t h Q} : Ev d 92 127 [l0, l1, some (.ref a), l3, l4] t h Q = Ev d 92 128 [l0, l1, some (.ref a), l3, l4] (.ref a :: t) h Q := en_aload_n mm92 dX6_tick_127 rfl
theorem i92_128 {d a l0 l1 l2 l3 l4 t h Q} : Ev d 92 128 [l0, l1, l2, l3, l4] (.ref a :: t) h Q = (hk h a = 20 ∧ Ev d 92 131 [l0, l1, l2, l3, l4] (hF h a 1 :: t) h Q) := en_getfield (cj := 9) mm92 dX6_tick_128 (by decide +kernel)
theorem i92_131 {d l0 l1 l2 l3 l4 t x y h Q} : Ev d 92 131 [l0, l1, l2, l3, l4] (.int y :: .int x :: t) h Q = Ev d 92 132 [l0, l1, l2, l3, l4] (.int (x - y) :: t) h Q := en_isub mm92 dX6_tick_131
theorem i92_132 {d l0 l1 l2 l3 l4 t x h Q} : Ev d 92 132 [l0, l1, l2, l3, l4] (.int x :: t) h Q = Ev d 92 133 [l0, l1, nl l2, some (.int x), l4] t h Q := en_istore_n mm92 dX6_tick_132 (of_decide_eq_true rfl) rfl
theorem i92_133 {d l0 l1 l2 l4 t x h Q} : Ev d 92 133 [l0, l1, l2, some (.int x), l4] t h Q = Ev d 92 134 [l0, l1, l2, some (.int x), l4] (.int x :: t) h Q := en_iload_n mm92 dX6_tick_133 rfl
theorem i92_134 {d a l1 l2 l3 l4 t h Q} : Ev d 92 134 [some (.ref a), l1, l2, l3, l4] t h Q = Ev d 92 135 [some (.ref a), l1, l2, l3, l4] (.ref a :: t) h Q := en_aload_n mm92 dX6_tick_134 rfl
theorem i92_135 {d a l0 l1 l3 l4 t h Q} : Ev d 92 135 [l0, l1, some (.ref a), l3, l4] t h Q = Ev d 92 136 [l0, l1, some (.ref a), l3, l4] (.ref a :: t) h Q := en_aload_n mm92 dX6_tick_135 rfl
theorem i92_136 {d a l0 l1 l2 l3 l4 t h Q} : Ev d 92 136 [l0, l1, l2, l3, l4] (.ref a :: t) h Q = (hk h a = 20 ∧ Ev d 92 139 [l0, l1, l2, l3, l4] (hF h a 0 :: t) h Q) := en_getfield (cj := 9) mm92 dX6_tick_136 (by decide +kernel)
theorem i92_139 {d l0 l2 l3 l4 t x h Q} : Ev d 92 139 [l0, some (.int x), l2, l3, l4] t h Q = Ev d 92 140 [l0, some (.int x), l2, l3, l4] (.int x :: t) h Q := en_iload_n mm92 dX6_tick_139 rfl
theorem i92_140 {d l0 l1 l2 l4 t x h Q} : Ev d 92 140 [l0, l1, l2, some (.int x), l4] t h Q = Ev d 92 141 [l0, l1, l2, some (.int x), l4] (.int x :: t) h Q := en_iload_n mm92 dX6_tick_140 rfl
theorem i92_141 {d a l0 l1 l2 l3 l4 x0 x1 x2 x4 h Q} : Ev (d + 1) 92 141 [l0, l1, l2, l3, l4] [x0, x1, x2, .ref a, x4] h Q = (hk h a = 7 ∧ EvM d 88 [.ref a, x2, x1, x0] h (konN (d + 1) 92 144 [l0, l1, l2, l3, l4] [x4] Q)) := en_virtualN mm92 dX6_tick_141 (by decide +kernel : ml _ _ = some (2, 88)) (by decide) (rfl : mtab[88]? = some _) (by decide +kernel : npar _ = 3) rfl (by decide) rfl (of_decide_eq_true rfl) (len_cat (of_decide_eq_true rfl)) rfl rfl rfl
theorem i92_144 {d l0 l1 l2 l3 l4 t x y h Q} : Ev d 92 144 [l0, l1, l2, l3, l4] (.int y :: .int x :: t) h Q = Ev d 92 145 [l0, l1, l2, l3, l4] (.int (x * y) :: t) h Q := en_imul mm92 dX6_tick_144
theorem i92_145 {d l0 l1 l2 l3 l4 t h Q} : Ev d 92 145 [l0, l1, l2, l3, l4] t h Q = Ev d 92 148 [l0, l1, l2, l3, l4] (.int 1000 :: t) h Q := en_sipush mm92 dX6_tick_145 (by decide)
theorem i92_148 {d l0 l1 l2 l3 l4 t x y h Q} : Ev d 92 148 [l0, l1, l2, l3, l4] (.int y :: .int x :: t) h Q = (¬ y = 0 ∧ Ev d 92 149 [l0, l1, l2, l3, l4] (.int (x / y) :: t) h Q) := en_idiv mm92 dX6_tick_148
theorem i92_149 {d l0 l1 l2 l3 l4 t x h Q} : Ev d 92 149 [l0, l1, l2, l3, l4] (.int x :: t) h Q = Ev d 92 151 [l0, l1, l2, nl l3, some (.int x)] t h Q := en_istore mm92 dX6_tick_149 (of_decide_eq_true rfl) rfl
theorem i92_151 {d a l0 l1 l3 l4 t h Q} : Ev d 92 151 [l0, l1, some (.ref a), l3, l4] t h Q = Ev d 92 152 [l0, l1, some (.ref a), l3, l4] (.ref a :: t) h Q := en_aload_n mm92 dX6_tick_151 rfl
theorem i92_152 {d a l0 l1 l2 l3 l4 t h Q} : Ev d 92 152 [l0, l1, l2, l3, l4] (.ref a :: t) h Q = Ev d 92 153 [l0, l1, l2, l3, l4] (.ref a :: .ref a :: t) h Q := en_dup mm92 dX6_tick_152
theorem i92_153 {d a l0 l1 l2 l3 l4 t h Q} : Ev d 92 153 [l0, l1, l2, l3, l4] (.ref a :: t) h Q = (hk h a = 20 ∧ Ev d 92 156 [l0, l1, l2, l3, l4] (hF h a 1 :: t) h Q) := en_getfield (cj := 9) mm92 dX6_tick_153 (by decide +kernel)
theorem i92_156 {d l0 l1 l2 l3 t x h Q} : Ev d 92 156 [l0, l1, l2, l3, some (.int x)] t h Q = Ev d 92 158 [l0, l1, l2, l3, some (.int x)] (.int x :: t) h Q := en_iload mm92 dX6_tick_156 rfl
theorem i92_158 {d l0 l1 l2 l3 l4 t x y h Q} : Ev d 92 158 [l0, l1, l2, l3, l4] (.int y :: .int x :: t) h Q = Ev d 92 159 [l0, l1, l2, l3, l4] (.int (x + y) :: t) h Q := en_iadd mm92 dX6_tick_158
theorem i92_159 {d a l0 l1 l2 l3 l4 t x h Q} : Ev d 92 159 [l0, l1, l2, l3, l4] (.int x :: .ref a :: t) h Q = (hk h a = 20 ∧ Ev d 92 162 [l0, l1, l2, l3, l4] t (wF h a 1 (.int x)) Q) := en_putfield (cj := 9) mm92 dX6_tick_159 (by decide +kernel) rfl
theorem i92_162 {d a l1 l2 l3 l4 t h Q} : Ev d 92 162 [some (.ref a), l1, l2, l3, l4] t h Q = Ev d 92 163 [some (.ref a), l1, l2, l3, l4] (.ref a :: t) h Q := en_aload_n mm92 dX6_tick_162 rfl
theorem i92_163 {d a l0 l1 l2 l3 l4 t h Q} : Ev d 92 163 [l0, l1, l2, l3, l4] (.ref a :: t) h Q = (hk h a = 7 ∧ Ev d 92 166 [l0, l1, l2, l3, l4] (hF h a 6 :: t) h Q) := en_getfield (cj := 6) mm92 dX6_tick_163 (by decide +kernel)
theorem i92_166 {d l0 l2 l3 l4 t x h Q} : Ev d 92 166 [l0, some (.int x), l2, l3, l4] t h Q = Ev d 92 167 [l0, some (.int x), l2, l3, l4] (.int x :: t) h Q := en_iload_n mm92 dX6_tick_166 rfl
theorem i92_167 {d l0 l1 l2 l3 l4 t h Q} : Ev d 92 167 [l0, l1, l2, l3, l4] t h Q = Ev d 92 169 [l0, l1, l2, l3, l4] (.int 20 :: t) h Q := en_bipush mm92 dX6_tick_167 (by decide)
theorem i92_169 {d a l1 l2 l3 l4 t h Q} : Ev d 92 169 [some (.ref a), l1, l2, l3, l4] t h Q = Ev d 92 170 [some (.ref a), l1, l2, l3, l4] (.ref a :: t) h Q := en_aload_n mm92 dX6_tick_169 rfl
theorem i92_170 {d a l0 l1 l2 l3 l4 t h Q} : Ev d 92 170 [l0, l1, l2, l3, l4] (.ref a :: t) h Q = (hk h a = 7 ∧ Ev d 92 173 [l0, l1, l2, l3, l4] (hF h a 6 :: t) h Q) := en_getfield (cj := 6) mm92 dX6_tick_170 (by decide +kernel)
theorem i92_173 {d l0 l2 l3 l4 t x h Q} : Ev d 92 173 [l0, some (.int x), l2, l3, l4] t h Q = Ev d 92 174 [l0, some (.int x), l2, l3, l4] (.int x :: t) h Q := en_iload_n mm92 dX6_tick_173 rfl
theorem i92_174 {d a j l0 l1 l2 l3 l4 t h Q} : Ev d 92 174 [l0, l1, l2, l3, l4] (.int j :: .ref a :: t) h Q = (hk h a = 10 ∧ inb j (hl h a) ∧ Ev d 92 175 [l0, l1, l2, l3, l4] (.int (hA h a j.toNatClampNeg) :: t) h Q) := en_iaload mm92 dX6_tick_174
theorem i92_175 {d l0 l1 l2 l3 t x h Q} : Ev d 92 175 [l0, l1, l2, l3, some (.int x)] t h Q = Ev d 92 177 [l0, l1, l2, l3, some (.int x)] (.int x :: t) h Q := en_iload mm92 dX6_tick_175 rfl
theorem i92_177 {d a l0 l1 l3 l4 t h Q} : Ev d 92 177 [l0, l1, some (.ref a), l3, l4] t h Q = Ev d 92 178 [l0, l1, some (.ref a), l3, l4] (.ref a :: t) h Q := en_aload_n mm92 dX6_tick_177 rfl
theorem i92_178 {d a l0 l1 l2 l3 l4 t h Q} : Ev d 92 178 [l0, l1, l2, l3, l4] (.ref a :: t) h Q = (hk h a = 20 ∧ Ev d 92 181 [l0, l1, l2, l3, l4] (hF h a 0 :: t) h Q) := en_getfield (cj := 9) mm92 dX6_tick_178 (by decide +kernel)
theorem i92_181 {d l0 l1 l2 l3 l4 t x y h Q} : Ev d 92 181 [l0, l1, l2, l3, l4] (.int y :: .int x :: t) h Q = Ev d 92 182 [l0, l1, l2, l3, l4] (.int (x * y) :: t) h Q := en_imul mm92 dX6_tick_181
theorem i92_182 {d a l1 l2 l3 l4 t h Q} : Ev d 92 182 [some (.ref a), l1, l2, l3, l4] t h Q = Ev d 92 183 [some (.ref a), l1, l2, l3, l4] (.ref a :: t) h Q := en_aload_n mm92 dX6_tick_182 rfl
theorem i92_183 {d a l0 l1 l2 l3 l4 t h Q} : Ev d 92 183 [l0, l1, l2, l3, l4] (.ref a :: t) h Q = (hk h a = 7 ∧ Ev d 92 186 [l0, l1, l2, l3, l4] (hF h a 5 :: t) h Q) := en_getfield (cj := 6) mm92 dX6_tick_183 (by decide +kernel)
theorem i92_186 {d l0 l2 l3 l4 t x h Q} : Ev d 92 186 [l0, some (.int x), l2, l3, l4] t h Q = Ev d 92 187 [l0, some (.int x), l2, l3, l4] (.int x :: t) h Q := en_iload_n mm92 dX6_tick_186 rfl
theorem i92_187 {d a j l0 l1 l2 l3 l4 t h Q} : Ev d 92 187 [l0, l1, l2, l3, l4] (.int j :: .ref a :: t) h Q = ((13 ≤ hk h a ∧ hk h a ≤ 16) ∧ inb j (hl h a) ∧ Ev d 92 188 [l0, l1, l2, l3, l4] (orv (hR h a j.toNatClampNeg) :: t) h Q) := en_aaload mm92 dX6_tick_187
theorem i92_188 {d l0 l1 l2 l3 l4 t h Q} : Ev d 92 188 [l0, l1, l2, l3, l4] t h Q = Ev d 92 189 [l0, l1, l2, l3, l4] (.int 2 :: t) h Q := en_iconst mm92 dX6_tick_188 (by decide)
theorem i92_189 {d a j l0 l1 l2 l3 l4 t h Q} : Ev d 92 189 [l0, l1, l2, l3, l4] (.int j :: .ref a :: t) h Q = (hk h a = 10 ∧ inb j (hl h a) ∧ Ev d 92 190 [l0, l1, l2, l3, l4] (.int (hA h a j.toNatClampNeg) :: t) h Q) := en_iaload mm92 dX6_tick_189
theorem i92_190 {d l0 l1 l2 l3 l4 t x y h Q} : Ev d 92 190 [l0, l1, l2, l3, l4] (.int y :: .int x :: t) h Q = (¬ y = 0 ∧ Ev d 92 191 [l0, l1, l2, l3, l4] (.int (x / y) :: t) h Q) := en_idiv mm92 dX6_tick_190
theorem i92_191 {d l0 l1 l2 l3 l4 t x y h Q} : Ev d 92 191 [l0, l1, l2, l3, l4] (.int y :: .int x :: t) h Q = Ev d 92 192 [l0, l1, l2, l3, l4] (.int (x - y) :: t) h Q := en_isub mm92 dX6_tick_191
theorem i92_192 {d l0 l1 l2 l3 l4 x x0 x1 y h Q} : Ev (d + 1) 92 192 [l0, l1, l2, l3, l4] [.int y, .int x, x0, x1] h Q = Ev (d + 1) 92 195 [l0, l1, l2, l3, l4] [.int (if x < y then y else x), x0, x1] h Q := en_max mm92 dX6_tick_192 (by decide +kernel) (of_decide_eq_true rfl)
theorem i92_195 {d a j l0 l1 l2 l3 l4 t x h Q} : Ev d 92 195 [l0, l1, l2, l3, l4] (.int x :: .int j :: .ref a :: t) h Q = (hk h a = 10 ∧ inb j (hl h a) ∧ Ev d 92 196 [l0, l1, l2, l3, l4] t (wA h a (upd (hA h a) j.toNatClampNeg x)) Q) := en_iastore mm92 dX6_tick_195
theorem i92_196 {d l0 l2 l3 l4 t x h Q} : Ev d 92 196 [l0, some (.int x), l2, l3, l4] t h Q = Ev d 92 199 [nl l0, some (.int (x + 1)), l2, l3, l4] t h Q := en_iinc mm92 dX6_tick_196 rfl (by decide) rfl
theorem i92_199 {d l0 l1 l2 l3 l4 t h Q} : Ev d 92 199 [l0, l1, l2, l3, l4] t h Q = Ev d 92 68 [l0, l1, l2, l3, l4] t h Q := en_goto mm92 dX6_tick_199 rfl
theorem i92_202 {d a l1 l2 l3 l4 t h Q} : Ev d 92 202 [some (.ref a), l1, l2, l3, l4] t h Q = Ev d 92 203 [some (.ref a), l1, l2, l3, l4] (.ref a :: t) h Q := en_aload_n mm92 dX6_tick_202 rfl
theorem i92_203 {d a l0 l1 l2 l3 l4 h Q} : Ev (d + 1) 92 203 [l0, l1, l2, l3, l4] [.ref a] h Q = (hk h a = 7 ∧ EvM d 90 [.ref a] h (konN (d + 1) 92 206 [l0, l1, l2, l3, l4] [] Q)) := en_virtualN mm92 dX6_tick_203 (by decide +kernel : ml _ _ = some (2, 90)) (by decide) (rfl : mtab[90]? = some _) (by decide +kernel : npar _ = 0) rfl (by decide) rfl (of_decide_eq_true rfl) (len_cat (of_decide_eq_true rfl)) rfl rfl rfl
theorem i92_206 {d a l1 l2 l3 l4 t h Q} : Ev d 92 206 [some (.ref a), l1, l2, l3, l4] t h Q = Ev d 92 207 [some (.ref a), l1, l2, l3, l4] (.ref a :: t) h Q := en_aload_n mm92 dX6_tick_206 rfl
theorem i92_207 {d a l0 l1 l2 l3 l4 t h Q} : Ev d 92 207 [l0, l1, l2, l3, l4] (.ref a :: t) h Q = (hk h a = 7 ∧ Ev d 92 210 [l0, l1, l2, l3, l4] (hF h a 5 :: t) h Q) := en_getfield (cj := 6) mm92 dX6_tick_207 (by decide +kernel)
theorem i92_210 {d a l0 l1 l2 l3 l4 t h Q} : Ev d 92 210 [l0, l1, l2, l3, l4] (.ref a :: t) h Q = ((10 ≤ hk h a ∧ hk h a ≤ 16) ∧ Ev d 92 211 [l0, l1, l2, l3, l4] (.int (nI (hl h a)) :: t) h Q) := en_arraylength mm92 dX6_tick_210
theorem i92_211 {d l0 l1 l2 l3 l4 t h Q} : Ev d 92 211 [l0, l1, l2, l3, l4] t h Q = Ev d 92 212 [l0, l1, l2, l3, l4] (.int 1 :: t) h Q := en_iconst mm92 dX6_tick_211 (by decide)
theorem i92_212 {d l0 l1 l2 l3 l4 t x y h Q} : Ev d 92 212 [l0, l1, l2, l3, l4] (.int y :: .int x :: t) h Q = Ev d 92 213 [l0, l1, l2, l3, l4] (.int (x - y) :: t) h Q := en_isub mm92 dX6_tick_212
theorem i92_213 {d l0 l1 l2 l3 l4 t x h Q} : Ev d 92 213 [l0, l1, l2, l3, l4] (.int x :: t) h Q = Ev d 92 214 [nl l0, some (.int x), l2, l3, l4] t h Q := en_istore_n mm92 dX6_tick_213 (of_decide_eq_true rfl) rfl
theorem i92_214 {d l0 l2 l3 l4 t x h Q} : Ev d 92 214 [l0, some (.int x), l2, l3, l4] t h Q = Ev d 92 215 [l0, some (.int x), l2, l3, l4] (.int x :: t) h Q := en_iload_n mm92 dX6_tick_214 rfl
theorem i92_215 {d l0 l1 l2 l3 l4 t x h Q} : Ev d 92 215 [l0, l1, l2, l3, l4] (.int x :: t) h Q = if x < 0 then Ev d 92 229 [l0, l1, l2, l3, l4] t h Q else Ev d 92 218 [l0, l1, l2, l3, l4] t h Q := en_if_lt mm92 dX6_tick_215 rfl
theorem i92_218 {d a l1 l2 l3 l4 t h Q} : Ev d 92 218 [some (.ref a), l1, l2, l3, l4] t h Q = Ev d 92 219 [some (.ref a), l1, l2, l3, l4] (.ref a :: t) h Q := en_aload_n mm92 dX6_tick_218 rfl
theorem i92_219 {d l0 l2 l3 l4 t x h Q} : Ev d 92 219 [l0, some (.int x), l2, l3, l4] t h Q = Ev d 92 220 [l0, some (.int x), l2, l3, l4] (.int x :: t) h Q := en_iload_n mm92 dX6_tick_219 rfl
theorem i92_220 {d a l0 l1 l2 l3 l4 x0 h Q} : Ev (d + 1) 92 220 [l0, l1, l2, l3, l4] [x0, .ref a] h Q = (hk h a = 7 ∧ EvM d 91 [.ref a, x0] h (konN (d + 1) 92 223 [l0, l1, l2, l3, l4] [] Q)) := en_virtualN mm92 dX6_tick_220 (by decide +kernel : ml _ _ = some (2, 91)) (by decide) (rfl : mtab[91]? = some _) (by decide +kernel : npar _ = 1) rfl (by decide) rfl (of_decide_eq_true rfl) (len_cat (of_decide_eq_true rfl)) rfl rfl rfl
theorem i92_223 {d l0 l2 l3 l4 t x h Q} : Ev d 92 223 [l0, some (.int x), l2, l3, l4] t h Q = Ev d 92 226 [nl l0, some (.int (x + (-1))), l2, l3, l4] t h Q := en_iinc mm92 dX6_tick_223 rfl (by decide) rfl
theorem i92_226 {d l0 l1 l2 l3 l4 t h Q} : Ev d 92 226 [l0, l1, l2, l3, l4] t h Q = Ev d 92 214 [l0, l1, l2, l3, l4] t h Q := en_goto mm92 dX6_tick_226 rfl
theorem i92_229 {d a l1 l2 l3 l4 t h Q} : Ev d 92 229 [some (.ref a), l1, l2, l3, l4] t h Q = Ev d 92 230 [some (.ref a), l1, l2, l3, l4] (.ref a :: t) h Q := en_aload_n mm92 dX6_tick_229 rfl
theorem i92_230 {d a l0 l1 l2 l3 l4 t h Q} : Ev d 92 230 [l0, l1, l2, l3, l4] (.ref a :: t) h Q = (hk h a = 7 ∧ Ev d 92 233 [l0, l1, l2, l3, l4] (hF h a 7 :: t) h Q) := en_getfield (cj := 6) mm92 dX6_tick_230 (by decide +kernel)
theorem i92_233 {d a l0 l1 l2 l3 l4 t h Q} : Ev d 92 233 [l0, l1, l2, l3, l4] (.ref a :: t) h Q = Ev d 92 234 [nl l0, some (.ref a), l2, l3, l4] t h Q := en_astore_n mm92 dX6_tick_233 (of_decide_eq_true rfl) rfl
theorem i92_234 {d a l0 l2 l3 l4 t h Q} : Ev d 92 234 [l0, some (.ref a), l2, l3, l4] t h Q = Ev d 92 235 [l0, some (.ref a), l2, l3, l4] (.ref a :: t) h Q := en_aload_n mm92 dX6_tick_234 rfl
theorem i92_235 {d a l0 l1 l2 l3 l4 t h Q} : Ev d 92 235 [l0, l1, l2, l3, l4] (.ref a :: t) h Q = ((10 ≤ hk h a ∧ hk h a ≤ 16) ∧ Ev d 92 236 [l0, l1, l2, l3, l4] (.int (nI (hl h a)) :: t) h Q) := en_arraylength mm92 dX6_tick_235
theorem i92_236 {d l0 l1 l2 l3 l4 t x h Q} : Ev d 92 236 [l0, l1, l2, l3, l4] (.int x :: t) h Q = Ev d 92 237 [l0, nl l1, some (.int x), l3, l4] t h Q := en_istore_n mm92 dX6_tick_236 (of_decide_eq_true rfl) rfl
theorem i92_237 {d l0 l1 l2 l3 l4 t h Q} : Ev d 92 237 [l0, l1, l2, l3, l4] t h Q = Ev d 92 238 [l0, l1, l2, l3, l4] (.int 0 :: t) h Q := en_iconst mm92 dX6_tick_237 (by decide)
theorem i92_238 {d l0 l1 l2 l3 l4 t x h Q} : Ev d 92 238 [l0, l1, l2, l3, l4] (.int x :: t) h Q = Ev d 92 239 [l0, l1, nl l2, some (.int x), l4] t h Q := en_istore_n mm92 dX6_tick_238 (of_decide_eq_true rfl) rfl
theorem i92_239 {d l0 l1 l2 l4 t x h Q} : Ev d 92 239 [l0, l1, l2, some (.int x), l4] t h Q = Ev d 92 240 [l0, l1, l2, some (.int x), l4] (.int x :: t) h Q := en_iload_n mm92 dX6_tick_239 rfl
theorem i92_240 {d l0 l1 l3 l4 t x h Q} : Ev d 92 240 [l0, l1, some (.int x), l3, l4] t h Q = Ev d 92 241 [l0, l1, some (.int x), l3, l4] (.int x :: t) h Q := en_iload_n mm92 dX6_tick_240 rfl
theorem i92_241 {d l0 l1 l2 l3 l4 t x y h Q} : Ev d 92 241 [l0, l1, l2, l3, l4] (.int y :: .int x :: t) h Q = if y ≤ x then Ev d 92 286 [l0, l1, l2, l3, l4] t h Q else Ev d 92 244 [l0, l1, l2, l3, l4] t h Q := en_ic_ge mm92 dX6_tick_241 rfl
theorem i92_244 {d a l0 l2 l3 l4 t h Q} : Ev d 92 244 [l0, some (.ref a), l2, l3, l4] t h Q = Ev d 92 245 [l0, some (.ref a), l2, l3, l4] (.ref a :: t) h Q := en_aload_n mm92 dX6_tick_244 rfl
theorem i92_245 {d l0 l1 l2 l4 t x h Q} : Ev d 92 245 [l0, l1, l2, some (.int x), l4] t h Q = Ev d 92 246 [l0, l1, l2, some (.int x), l4] (.int x :: t) h Q := en_iload_n mm92 dX6_tick_245 rfl
theorem i92_246 {d a j l0 l1 l2 l3 l4 t h Q} : Ev d 92 246 [l0, l1, l2, l3, l4] (.int j :: .ref a :: t) h Q = ((13 ≤ hk h a ∧ hk h a ≤ 16) ∧ inb j (hl h a) ∧ Ev d 92 247 [l0, l1, l2, l3, l4] (orv (hR h a j.toNatClampNeg) :: t) h Q) := en_aaload mm92 dX6_tick_246
theorem i92_247 {d a l0 l1 l2 l3 l4 t h Q} : Ev d 92 247 [l0, l1, l2, l3, l4] (.ref a :: t) h Q = Ev d 92 249 [l0, l1, l2, nl l3, some (.ref a)] t h Q := en_astore mm92 dX6_tick_247 (of_decide_eq_true rfl) rfl
theorem i92_249 {d a l0 l1 l2 l3 t h Q} : Ev d 92 249 [l0, l1, l2, l3, some (.ref a)] t h Q = Ev d 92 251 [l0, l1, l2, l3, some (.ref a)] (.ref a :: t) h Q := en_aload mm92 dX6_tick_249 rfl
theorem i92_251 {d a l0 l1 l2 l3 l4 t h Q} : Ev d 92 251 [l0, l1, l2, l3, l4] (.ref a :: t) h Q = (hk h a = 20 ∧ Ev d 92 254 [l0, l1, l2, l3, l4] (hF h a 2 :: t) h Q) := en_getfield (cj := 9) mm92 dX6_tick_251 (by decide +kernel)
theorem i92_254 {d l0 l1 l2 l3 l4 t x h Q} : Ev d 92 254 [l0, l1, l2, l3, l4] (.int x :: t) h Q = if x = 0 then Ev d 92 257 [l0, l1, l2, l3, l4] t h Q else Ev d 92 280 [l0, l1, l2, l3, l4] t h Q := en_if_ne mm92 dX6_tick_254 rfl
theorem i92_257 {d a l1 l2 l3 l4 t h Q} : Ev d 92 257 [some (.ref a), l1, l2, l3, l4] t h Q = Ev d 92 258 [some (.ref a), l1, l2, l3, l4] (.ref a :: t) h Q := en_aload_n mm92 dX6_tick_257 rfl
theorem i92_258 {d l0 l1 l2 l3 l4 t h Q} : Ev d 92 258 [l0, l1, l2, l3, l4] t h Q = Ev d 92 259 [l0, l1, l2, l3, l4] (.int 0 :: t) h Q := en_iconst mm92 dX6_tick_258 (by decide)
theorem i92_259 {d a l0 l1 l2 l3 l4 x0 h Q} : Ev (d + 1) 92 259 [l0, l1, l2, l3, l4] [x0, .ref a] h Q = (hk h a = 7 ∧ EvM d 87 [.ref a, x0] h (konN (d + 1) 92 262 [l0, l1, l2, l3, l4] [] Q)) := en_virtualN mm92 dX6_tick_259 (by decide +kernel : ml _ _ = some (2, 87)) (by decide) (rfl : mtab[87]? = some _) (by decide +kernel : npar _ = 1) rfl (by decide) rfl (of_decide_eq_true rfl) (len_cat (of_decide_eq_true rfl)) rfl rfl rfl
theorem i92_262 {d l0 l1 l2 l3 l4 t x h Q} : Ev d 92 262 [l0, l1, l2, l3, l4] (.int x :: t) h Q = if x < 0 then Ev d 92 268 [l0, l1, l2, l3, l4] t h Q else Ev d 92 265 [l0, l1, l2, l3, l4] t h Q := en_if_lt mm92 dX6_tick_262 rfl
theorem i92_265 {d l0 l1 l2 l3 l4 t h Q} : Ev d 92 265 [l0, l1, l2, l3, l4] t h Q = Ev d 92 280 [l0, l1, l2, l3, l4] t h Q := en_goto mm92 dX6_tick_265 rfl
theorem i92_268 {d a l0 l1 l2 l3 t h Q} : Ev d 92 268 [l0, l1, l2, l3, some (.ref a)] t h Q = Ev d 92 270 [l0, l1, l2, l3, some (.ref a)] (.ref a :: t) h Q := en_aload mm92 dX6_tick_268 rfl
theorem i92_270 {d l0 l1 l2 l3 l4 t h Q} : Ev d 92 270 [l0, l1, l2, l3, l4] t h Q = Ev d 92 271 [l0, l1, l2, l3, l4] (.int 1 :: t) h Q := en_iconst mm92 dX6_tick_270 (by decide)
theorem i92_271 {d a l0 l1 l2 l3 l4 t x h Q} : Ev d 92 271 [l0, l1, l2, l3, l4] (.int x :: .ref a :: t) h Q = (hk h a = 20 ∧ Ev d 92 274 [l0, l1, l2, l3, l4] t (wF h a 2 (.int x)) Q) := en_putfield (cj := 9) mm92 dX6_tick_271 (by decide +kernel) rfl
theorem i92_274 {d a l0 l1 l2 l3 t h Q} : Ev d 92 274 [l0, l1, l2, l3, some (.ref a)] t h Q = Ev d 92 276 [l0, l1, l2, l3, some (.ref a)] (.ref a :: t) h Q := en_aload mm92 dX6_tick_274 rfl
theorem i92_276 {d l0 l1 l2 l3 l4 t h Q} : Ev d 92 276 [l0, l1, l2, l3, l4] t h Q = Ev d 92 277 [l0, l1, l2, l3, l4] (.int 0 :: t) h Q := en_iconst mm92 dX6_tick_276 (by decide)
theorem i92_277 {d a l0 l1 l2 l3 l4 t x h Q} : Ev d 92 277 [l0, l1, l2, l3, l4] (.int x :: .ref a :: t) h Q = (hk h a = 20 ∧ Ev d 92 280 [l0, l1, l2, l3, l4] t (wF h a 3 (.int x)) Q) := en_putfield (cj := 9) mm92 dX6_tick_277 (by decide +kernel) rfl
theorem i92_280 {d l0 l1 l2 l4 t x h Q} : Ev d 92 280 [l0, l1, l2, some (.int x), l4] t h Q = Ev d 92 283 [l0, l1, nl l2, some (.int (x + 1)), l4] t h Q := en_iinc mm92 dX6_tick_280 rfl (by decide) rfl
theorem i92_283 {d l0 l1 l2 l3 l4 t h Q} : Ev d 92 283 [l0, l1, l2, l3, l4] t h Q = Ev d 92 239 [l0, l1, l2, l3, l4] t h Q := en_goto mm92 dX6_tick_283 rfl
theorem i92_286 {d a l1 l2 l3 l4 t h Q} : Ev d 92 286 [some (.ref a), l1, l2, l3, l4] t h Q = Ev d 92 287 [some (.ref a), l1, l2, l3, l4] (.ref a :: t) h Q := en_aload_n mm92 dX6_tick_286 rfl
theorem i92_287 {d a l0 l1 l2 l3 l4 t h Q} : Ev d 92 287 [l0, l1, l2, l3, l4] (.ref a :: t) h Q = Ev d 92 288 [l0, l1, l2, l3, l4] (.ref a :: .ref a :: t) h Q := en_dup mm92 dX6_tick_287
theorem i92_288 {d a l0 l1 l2 l3 l4 t h Q} : Ev d 92 288 [l0, l1, l2, l3, l4] (.ref a :: t) h Q = (hk h a = 7 ∧ Ev d 92 291 [l0, l1, l2, l3, l4] (hF h a 0 :: t) h Q) := en_getfield (cj := 6) mm92 dX6_tick_288 (by decide +kernel)
theorem i92_291 {d l0 l1 l2 l3 l4 t h Q} : Ev d 92 291 [l0, l1, l2, l3, l4] t h Q = Ev d 92 292 [l0, l1, l2, l3, l4] (.int 1 :: t) h Q := en_iconst mm92 dX6_tick_291 (by decide)
theorem i92_292 {d l0 l1 l2 l3 l4 t x y h Q} : Ev d 92 292 [l0, l1, l2, l3, l4] (.int y :: .int x :: t) h Q = Ev d 92 293 [l0, l1, l2, l3, l4] (.int (x + y) :: t) h Q := en_iadd mm92 dX6_tick_292
theorem i92_293 {d a l0 l1 l2 l3 l4 t x h Q} : Ev d 92 293 [l0, l1, l2, l3, l4] (.int x :: .ref a :: t) h Q = (hk h a = 7 ∧ Ev d 92 296 [l0, l1, l2, l3, l4] t (wF h a 0 (.int x)) Q) := en_putfield (cj := 6) mm92 dX6_tick_293 (by decide +kernel) rfl
theorem i92_296 {d l0 l1 l2 l3 l4 h Q} : Ev d 92 296 [l0, l1, l2, l3, l4] [] h Q = Q (.inl none) h := en_return mm92 dX6_tick_296 rfl
abbrev em93 : MI := (yX6_count, cX6_count, 7, some .int, 6, [])
theorem mm93 : mtab[93]? = some em93 := rfl
theorem in93 {d : Nat} {h : AH} {K : AO → AH → Prop} {v0 : Nat} {v1 : Int32} : EvM d 93 [(.ref v0), (.int v1)] h K = Ev d 93 0 [some (.ref v0), some (.int v1), none, none, none, none, none] [] h K := evm_in mm93 (of_decide_eq_true rfl) rfl
theorem i93_0 {d l0 l1 l2 l3 l4 l5 l6 t h Q} : Ev d 93 0 [l0, l1, l2, l3, l4, l5, l6] t h Q = Ev d 93 1 [l0, l1, l2, l3, l4, l5, l6] (.int 0 :: t) h Q := en_iconst mm93 dX6_count_0 (by decide)
theorem i93_1 {d l0 l1 l2 l3 l4 l5 l6 t x h Q} : Ev d 93 1 [l0, l1, l2, l3, l4, l5, l6] (.int x :: t) h Q = Ev d 93 2 [l0, nl l1, some (.int x), l3, l4, l5, l6] t h Q := en_istore_n mm93 dX6_count_1 (of_decide_eq_true rfl) rfl
theorem i93_2 {d a l1 l2 l3 l4 l5 l6 t h Q} : Ev d 93 2 [some (.ref a), l1, l2, l3, l4, l5, l6] t h Q = Ev d 93 3 [some (.ref a), l1, l2, l3, l4, l5, l6] (.ref a :: t) h Q := en_aload_n mm93 dX6_count_2 rfl
theorem i93_3 {d a l0 l1 l2 l3 l4 l5 l6 t h Q} : Ev d 93 3 [l0, l1, l2, l3, l4, l5, l6] (.ref a :: t) h Q = (hk h a = 7 ∧ Ev d 93 6 [l0, l1, l2, l3, l4, l5, l6] (hF h a 7 :: t) h Q) := en_getfield (cj := 6) mm93 dX6_count_3 (by decide +kernel)
theorem i93_6 {d a l0 l1 l2 l3 l4 l5 l6 t h Q} : Ev d 93 6 [l0, l1, l2, l3, l4, l5, l6] (.ref a :: t) h Q = Ev d 93 7 [l0, l1, nl l2, some (.ref a), l4, l5, l6] t h Q := en_astore_n mm93 dX6_count_6 (of_decide_eq_true rfl) rfl
theorem i93_7 {d a l0 l1 l2 l4 l5 l6 t h Q} : Ev d 93 7 [l0, l1, l2, some (.ref a), l4, l5, l6] t h Q = Ev d 93 8 [l0, l1, l2, some (.ref a), l4, l5, l6] (.ref a :: t) h Q := en_aload_n mm93 dX6_count_7 rfl
theorem i93_8 {d a l0 l1 l2 l3 l4 l5 l6 t h Q} : Ev d 93 8 [l0, l1, l2, l3, l4, l5, l6] (.ref a :: t) h Q = ((10 ≤ hk h a ∧ hk h a ≤ 16) ∧ Ev d 93 9 [l0, l1, l2, l3, l4, l5, l6] (.int (nI (hl h a)) :: t) h Q) := en_arraylength mm93 dX6_count_8
theorem i93_9 {d l0 l1 l2 l3 l4 l5 l6 t x h Q} : Ev d 93 9 [l0, l1, l2, l3, l4, l5, l6] (.int x :: t) h Q = Ev d 93 11 [l0, l1, l2, nl l3, some (.int x), l5, l6] t h Q := en_istore mm93 dX6_count_9 (of_decide_eq_true rfl) rfl
theorem i93_11 {d l0 l1 l2 l3 l4 l5 l6 t h Q} : Ev d 93 11 [l0, l1, l2, l3, l4, l5, l6] t h Q = Ev d 93 12 [l0, l1, l2, l3, l4, l5, l6] (.int 0 :: t) h Q := en_iconst mm93 dX6_count_11 (by decide)
theorem i93_12 {d l0 l1 l2 l3 l4 l5 l6 t x h Q} : Ev d 93 12 [l0, l1, l2, l3, l4, l5, l6] (.int x :: t) h Q = Ev d 93 14 [l0, l1, l2, l3, nl l4, some (.int x), l6] t h Q := en_istore mm93 dX6_count_12 (of_decide_eq_true rfl) rfl
theorem i93_14 {d l0 l1 l2 l3 l4 l6 t x h Q} : Ev d 93 14 [l0, l1, l2, l3, l4, some (.int x), l6] t h Q = Ev d 93 16 [l0, l1, l2, l3, l4, some (.int x), l6] (.int x :: t) h Q := en_iload mm93 dX6_count_14 rfl
theorem i93_16 {d l0 l1 l2 l3 l5 l6 t x h Q} : Ev d 93 16 [l0, l1, l2, l3, some (.int x), l5, l6] t h Q = Ev d 93 18 [l0, l1, l2, l3, some (.int x), l5, l6] (.int x :: t) h Q := en_iload mm93 dX6_count_16 rfl
theorem i93_18 {d l0 l1 l2 l3 l4 l5 l6 t x y h Q} : Ev d 93 18 [l0, l1, l2, l3, l4, l5, l6] (.int y :: .int x :: t) h Q = if y ≤ x then Ev d 93 45 [l0, l1, l2, l3, l4, l5, l6] t h Q else Ev d 93 21 [l0, l1, l2, l3, l4, l5, l6] t h Q := en_ic_ge mm93 dX6_count_18 rfl
theorem i93_21 {d a l0 l1 l2 l4 l5 l6 t h Q} : Ev d 93 21 [l0, l1, l2, some (.ref a), l4, l5, l6] t h Q = Ev d 93 22 [l0, l1, l2, some (.ref a), l4, l5, l6] (.ref a :: t) h Q := en_aload_n mm93 dX6_count_21 rfl
theorem i93_22 {d l0 l1 l2 l3 l4 l6 t x h Q} : Ev d 93 22 [l0, l1, l2, l3, l4, some (.int x), l6] t h Q = Ev d 93 24 [l0, l1, l2, l3, l4, some (.int x), l6] (.int x :: t) h Q := en_iload mm93 dX6_count_22 rfl
theorem i93_24 {d a j l0 l1 l2 l3 l4 l5 l6 t h Q} : Ev d 93 24 [l0, l1, l2, l3, l4, l5, l6] (.int j :: .ref a :: t) h Q = ((13 ≤ hk h a ∧ hk h a ≤ 16) ∧ inb j (hl h a) ∧ Ev d 93 25 [l0, l1, l2, l3, l4, l5, l6] (orv (hR h a j.toNatClampNeg) :: t) h Q) := en_aaload mm93 dX6_count_24
theorem i93_25 {d a l0 l1 l2 l3 l4 l5 l6 t h Q} : Ev d 93 25 [l0, l1, l2, l3, l4, l5, l6] (.ref a :: t) h Q = Ev d 93 27 [l0, l1, l2, l3, l4, nl l5, some (.ref a)] t h Q := en_astore mm93 dX6_count_25 (of_decide_eq_true rfl) rfl
theorem i93_27 {d a l0 l1 l2 l3 l4 l5 t h Q} : Ev d 93 27 [l0, l1, l2, l3, l4, l5, some (.ref a)] t h Q = Ev d 93 29 [l0, l1, l2, l3, l4, l5, some (.ref a)] (.ref a :: t) h Q := en_aload mm93 dX6_count_27 rfl
theorem i93_29 {d a l0 l1 l2 l3 l4 l5 l6 t h Q} : Ev d 93 29 [l0, l1, l2, l3, l4, l5, l6] (.ref a :: t) h Q = (hk h a = 20 ∧ Ev d 93 32 [l0, l1, l2, l3, l4, l5, l6] (hF h a 2 :: t) h Q) := en_getfield (cj := 9) mm93 dX6_count_29 (by decide +kernel)
theorem i93_32 {d l0 l2 l3 l4 l5 l6 t x h Q} : Ev d 93 32 [l0, some (.int x), l2, l3, l4, l5, l6] t h Q = Ev d 93 33 [l0, some (.int x), l2, l3, l4, l5, l6] (.int x :: t) h Q := en_iload_n mm93 dX6_count_32 rfl
theorem i93_33 {d l0 l1 l2 l3 l4 l5 l6 t x y h Q} : Ev d 93 33 [l0, l1, l2, l3, l4, l5, l6] (.int y :: .int x :: t) h Q = if x = y then Ev d 93 36 [l0, l1, l2, l3, l4, l5, l6] t h Q else Ev d 93 39 [l0, l1, l2, l3, l4, l5, l6] t h Q := en_ic_ne mm93 dX6_count_33 rfl
theorem i93_36 {d l0 l1 l3 l4 l5 l6 t x h Q} : Ev d 93 36 [l0, l1, some (.int x), l3, l4, l5, l6] t h Q = Ev d 93 39 [l0, nl l1, some (.int (x + 1)), l3, l4, l5, l6] t h Q := en_iinc mm93 dX6_count_36 rfl (by decide) rfl
theorem i93_39 {d l0 l1 l2 l3 l4 l6 t x h Q} : Ev d 93 39 [l0, l1, l2, l3, l4, some (.int x), l6] t h Q = Ev d 93 42 [l0, l1, l2, l3, nl l4, some (.int (x + 1)), l6] t h Q := en_iinc mm93 dX6_count_39 rfl (by decide) rfl
theorem i93_42 {d l0 l1 l2 l3 l4 l5 l6 t h Q} : Ev d 93 42 [l0, l1, l2, l3, l4, l5, l6] t h Q = Ev d 93 14 [l0, l1, l2, l3, l4, l5, l6] t h Q := en_goto mm93 dX6_count_42 rfl
theorem i93_45 {d l0 l1 l3 l4 l5 l6 t x h Q} : Ev d 93 45 [l0, l1, some (.int x), l3, l4, l5, l6] t h Q = Ev d 93 46 [l0, l1, some (.int x), l3, l4, l5, l6] (.int x :: t) h Q := en_iload_n mm93 dX6_count_45 rfl
theorem i93_46 {d l0 l1 l2 l3 l4 l5 l6 x h Q} : Ev d 93 46 [l0, l1, l2, l3, l4, l5, l6] [.int x] h Q = Q (.inl (some (.int x))) h := en_ireturnI mm93 dX6_count_46 rfl
abbrev em94 : MI := (yX6_recognised, cX6_recognised, 3, some .int, 6, [])
theorem mm94 : mtab[94]? = some em94 := rfl
theorem in94 {d : Nat} {h : AH} {K : AO → AH → Prop} {v0 : Int32} {v1 : Int32} : EvM d 94 [(.int v0), (.int v1)] h K = Ev d 94 0 [some (.int v0), some (.int v1), none] [] h K := evm_in mm94 (of_decide_eq_true rfl) rfl
theorem i94_0 {d l1 l2 t x h Q} : Ev d 94 0 [some (.int x), l1, l2] t h Q = Ev d 94 1 [some (.int x), l1, l2] (.int x :: t) h Q := en_iload_n mm94 dX6_recognised_0 rfl
theorem i94_1 {d l0 l1 l2 t h Q} : Ev d 94 1 [l0, l1, l2] t h Q = Ev d 94 3 [l0, l1, l2] (.int 40 :: t) h Q := en_bipush mm94 dX6_recognised_1 (by decide)
theorem i94_3 {d l0 l1 l2 t x y h Q} : Ev d 94 3 [l0, l1, l2] (.int y :: .int x :: t) h Q = Ev d 94 4 [l0, l1, l2] (.int (x * y) :: t) h Q := en_imul mm94 dX6_recognised_3
theorem i94_4 {d l0 l2 t x h Q} : Ev d 94 4 [l0, some (.int x), l2] t h Q = Ev d 94 5 [l0, some (.int x), l2] (.int x :: t) h Q := en_iload_n mm94 dX6_recognised_4 rfl
theorem i94_5 {d l0 l1 l2 t h Q} : Ev d 94 5 [l0, l1, l2] t h Q = Ev d 94 6 [l0, l1, l2] (.int 2 :: t) h Q := en_iconst mm94 dX6_recognised_5 (by decide)
theorem i94_6 {d l0 l1 l2 t x y h Q} : Ev d 94 6 [l0, l1, l2] (.int y :: .int x :: t) h Q = (¬ y = 0 ∧ Ev d 94 7 [l0, l1, l2] (.int (x / y) :: t) h Q) := en_idiv mm94 dX6_recognised_6
theorem i94_7 {d l0 l1 l2 t x y h Q} : Ev d 94 7 [l0, l1, l2] (.int y :: .int x :: t) h Q = Ev d 94 8 [l0, l1, l2] (.int (x + y) :: t) h Q := en_iadd mm94 dX6_recognised_7
theorem i94_8 {d l0 l2 t x h Q} : Ev d 94 8 [l0, some (.int x), l2] t h Q = Ev d 94 9 [l0, some (.int x), l2] (.int x :: t) h Q := en_iload_n mm94 dX6_recognised_8 rfl
theorem i94_9 {d l0 l1 l2 t x y h Q} : Ev d 94 9 [l0, l1, l2] (.int y :: .int x :: t) h Q = (¬ y = 0 ∧ Ev d 94 10 [l0, l1, l2] (.int (x / y) :: t) h Q) := en_idiv mm94 dX6_recognised_9
theorem i94_10 {d l0 l1 l2 t x h Q} : Ev d 94 10 [l0, l1, l2] (.int x :: t) h Q = Ev d 94 11 [l0, nl l1, some (.int x)] t h Q := en_istore_n mm94 dX6_recognised_10 (of_decide_eq_true rfl) rfl
theorem i94_11 {d l0 l1 t x h Q} : Ev d 94 11 [l0, l1, some (.int x)] t h Q = Ev d 94 12 [l0, l1, some (.int x)] (.int x :: t) h Q := en_iload_n mm94 dX6_recognised_11 rfl
theorem i94_12 {d l0 l1 l2 t h Q} : Ev d 94 12 [l0, l1, l2] t h Q = Ev d 94 13 [l0, l1, l2] (.int 2 :: t) h Q := en_iconst mm94 dX6_recognised_12 (by decide)
theorem i94_13 {d l0 l1 l2 t x y h Q} : Ev d 94 13 [l0, l1, l2] (.int y :: .int x :: t) h Q = if x < y then Ev d 94 22 [l0, l1, l2] t h Q else Ev d 94 16 [l0, l1, l2] t h Q := en_ic_lt mm94 dX6_recognised_13 rfl
theorem i94_16 {d l0 l1 t x h Q} : Ev d 94 16 [l0, l1, some (.int x)] t h Q = Ev d 94 17 [l0, l1, some (.int x)] (.int x :: t) h Q := en_iload_n mm94 dX6_recognised_16 rfl
theorem i94_17 {d l0 l1 l2 t h Q} : Ev d 94 17 [l0, l1, l2] t h Q = Ev d 94 19 [l0, l1, l2] (.int 19 :: t) h Q := en_bipush mm94 dX6_recognised_17 (by decide)
theorem i94_19 {d l0 l1 l2 t x y h Q} : Ev d 94 19 [l0, l1, l2] (.int y :: .int x :: t) h Q = if x ≤ y then Ev d 94 26 [l0, l1, l2] t h Q else Ev d 94 22 [l0, l1, l2] t h Q := en_ic_le mm94 dX6_recognised_19 rfl
theorem i94_22 {d l0 l1 l2 t h Q} : Ev d 94 22 [l0, l1, l2] t h Q = Ev d 94 23 [l0, l1, l2] (.int (-1) :: t) h Q := en_iconst mm94 dX6_recognised_22 (by decide)
theorem i94_23 {d l0 l1 l2 t h Q} : Ev d 94 23 [l0, l1, l2] t h Q = Ev d 94 27 [l0, l1, l2] t h Q := en_goto mm94 dX6_recognised_23 rfl
theorem i94_26 {d l0 l1 t x h Q} : Ev d 94 26 [l0, l1, some (.int x)] t h Q = Ev d 94 27 [l0, l1, some (.int x)] (.int x :: t) h Q := en_iload_n mm94 dX6_recognised_26 rfl
theorem i94_27 {d l0 l1 l2 x h Q} : Ev d 94 27 [l0, l1, l2] [.int x] h Q = Q (.inl (some (.int x))) h := en_ireturnI mm94 dX6_recognised_27 rfl
abbrev em95 : MI := (yX6_add, cX6_add, 4, none, 6, [])
theorem mm95 : mtab[95]? = some em95 := rfl
theorem in95 {d : Nat} {h : AH} {K : AO → AH → Prop} {v0 : Nat} {v1 : Int32} : EvM d 95 [(.ref v0), (.int v1)] h K = Ev d 95 0 [some (.ref v0), some (.int v1), none, none] [] h K := evm_in mm95 (of_decide_eq_true rfl) rfl
theorem i95_0 {d a l1 l2 l3 t h Q} : Ev d 95 0 [some (.ref a), l1, l2, l3] t h Q = Ev d 95 1 [some (.ref a), l1, l2, l3] (.ref a :: t) h Q := en_aload_n mm95 dX6_add_0 rfl
theorem i95_1 {d a l0 l1 l2 l3 t h Q} : Ev d 95 1 [l0, l1, l2, l3] (.ref a :: t) h Q = (hk h a = 7 ∧ Ev d 95 4 [l0, l1, l2, l3] (hF h a 7 :: t) h Q) := en_getfield (cj := 6) mm95 dX6_add_1 (by decide +kernel)
theorem i95_4 {d a l0 l1 l2 l3 t h Q} : Ev d 95 4 [l0, l1, l2, l3] (.ref a :: t) h Q = ((10 ≤ hk h a ∧ hk h a ≤ 16) ∧ Ev d 95 5 [l0, l1, l2, l3] (.int (nI (hl h a)) :: t) h Q) := en_arraylength mm95 dX6_add_4
theorem i95_5 {d l0 l1 l2 l3 t h Q} : Ev d 95 5 [l0, l1, l2, l3] t h Q = Ev d 95 6 [l0, l1, l2, l3] (.int 1 :: t) h Q := en_iconst mm95 dX6_add_5 (by decide)
theorem i95_6 {d l0 l1 l2 l3 t x y h Q} : Ev d 95 6 [l0, l1, l2, l3] (.int y :: .int x :: t) h Q = Ev d 95 7 [l0, l1, l2, l3] (.int (x + y) :: t) h Q := en_iadd mm95 dX6_add_6
theorem i95_7 {d l0 l1 l2 l3 t x h Q} : Ev d 95 7 [l0, l1, l2, l3] (.int x :: t) h Q = (¬ (x < 0 ∨ 60000000 < x.toNatClampNeg) ∧ Ev d 95 10 [l0, l1, l2, l3] (.ref (hN h) :: t) (alA h 15 x.toNatClampNeg) Q) := en_newL mm95 dX6_add_7 (by decide +kernel : look _ clsT = some (447, 9)) (by decide) rfl
theorem i95_10 {d a l0 l1 l2 l3 t h Q} : Ev d 95 10 [l0, l1, l2, l3] (.ref a :: t) h Q = Ev d 95 11 [l0, nl l1, some (.ref a), l3] t h Q := en_astore_n mm95 dX6_add_10 (of_decide_eq_true rfl) rfl
theorem i95_11 {d l0 l1 l2 l3 t h Q} : Ev d 95 11 [l0, l1, l2, l3] t h Q = Ev d 95 12 [l0, l1, l2, l3] (.int 0 :: t) h Q := en_iconst mm95 dX6_add_11 (by decide)
theorem i95_12 {d l0 l1 l2 l3 t x h Q} : Ev d 95 12 [l0, l1, l2, l3] (.int x :: t) h Q = Ev d 95 13 [l0, l1, nl l2, some (.int x)] t h Q := en_istore_n mm95 dX6_add_12 (of_decide_eq_true rfl) rfl
theorem i95_13 {d l0 l1 l2 t x h Q} : Ev d 95 13 [l0, l1, l2, some (.int x)] t h Q = Ev d 95 14 [l0, l1, l2, some (.int x)] (.int x :: t) h Q := en_iload_n mm95 dX6_add_13 rfl
theorem i95_14 {d a l1 l2 l3 t h Q} : Ev d 95 14 [some (.ref a), l1, l2, l3] t h Q = Ev d 95 15 [some (.ref a), l1, l2, l3] (.ref a :: t) h Q := en_aload_n mm95 dX6_add_14 rfl
theorem i95_15 {d a l0 l1 l2 l3 t h Q} : Ev d 95 15 [l0, l1, l2, l3] (.ref a :: t) h Q = (hk h a = 7 ∧ Ev d 95 18 [l0, l1, l2, l3] (hF h a 7 :: t) h Q) := en_getfield (cj := 6) mm95 dX6_add_15 (by decide +kernel)
theorem i95_18 {d a l0 l1 l2 l3 t h Q} : Ev d 95 18 [l0, l1, l2, l3] (.ref a :: t) h Q = ((10 ≤ hk h a ∧ hk h a ≤ 16) ∧ Ev d 95 19 [l0, l1, l2, l3] (.int (nI (hl h a)) :: t) h Q) := en_arraylength mm95 dX6_add_18
theorem i95_19 {d l0 l1 l2 l3 t x y h Q} : Ev d 95 19 [l0, l1, l2, l3] (.int y :: .int x :: t) h Q = if y ≤ x then Ev d 95 37 [l0, l1, l2, l3] t h Q else Ev d 95 22 [l0, l1, l2, l3] t h Q := en_ic_ge mm95 dX6_add_19 rfl
theorem i95_22 {d a l0 l1 l3 t h Q} : Ev d 95 22 [l0, l1, some (.ref a), l3] t h Q = Ev d 95 23 [l0, l1, some (.ref a), l3] (.ref a :: t) h Q := en_aload_n mm95 dX6_add_22 rfl
theorem i95_23 {d l0 l1 l2 t x h Q} : Ev d 95 23 [l0, l1, l2, some (.int x)] t h Q = Ev d 95 24 [l0, l1, l2, some (.int x)] (.int x :: t) h Q := en_iload_n mm95 dX6_add_23 rfl
theorem i95_24 {d a l1 l2 l3 t h Q} : Ev d 95 24 [some (.ref a), l1, l2, l3] t h Q = Ev d 95 25 [some (.ref a), l1, l2, l3] (.ref a :: t) h Q := en_aload_n mm95 dX6_add_24 rfl
theorem i95_25 {d a l0 l1 l2 l3 t h Q} : Ev d 95 25 [l0, l1, l2, l3] (.ref a :: t) h Q = (hk h a = 7 ∧ Ev d 95 28 [l0, l1, l2, l3] (hF h a 7 :: t) h Q) := en_getfield (cj := 6) mm95 dX6_add_25 (by decide +kernel)
theorem i95_28 {d l0 l1 l2 t x h Q} : Ev d 95 28 [l0, l1, l2, some (.int x)] t h Q = Ev d 95 29 [l0, l1, l2, some (.int x)] (.int x :: t) h Q := en_iload_n mm95 dX6_add_28 rfl
theorem i95_29 {d a j l0 l1 l2 l3 t h Q} : Ev d 95 29 [l0, l1, l2, l3] (.int j :: .ref a :: t) h Q = ((13 ≤ hk h a ∧ hk h a ≤ 16) ∧ inb j (hl h a) ∧ Ev d 95 30 [l0, l1, l2, l3] (orv (hR h a j.toNatClampNeg) :: t) h Q) := en_aaload mm95 dX6_add_29
theorem i95_30 {d l0 l1 l2 l3 t h Q j v a} (h0 : hk h a = 15) : Ev d 95 30 [l0, l1, l2, l3] (.ref v :: .int j :: .ref a :: t) h Q = (hk h v = 20 ∧ inb j (hl h a) ∧ Ev d 95 31 [l0, l1, l2, l3] t (wR h a (va_up (hR h a) j.toNatClampNeg (some v))) Q) := en_aastoreK mm95 dX6_add_30 (by decide) h0
theorem i95_31 {d l0 l1 l2 t x h Q} : Ev d 95 31 [l0, l1, l2, some (.int x)] t h Q = Ev d 95 34 [l0, l1, nl l2, some (.int (x + 1))] t h Q := en_iinc mm95 dX6_add_31 rfl (by decide) rfl
theorem i95_34 {d l0 l1 l2 l3 t h Q} : Ev d 95 34 [l0, l1, l2, l3] t h Q = Ev d 95 13 [l0, l1, l2, l3] t h Q := en_goto mm95 dX6_add_34 rfl
theorem i95_37 {d a l0 l1 l3 t h Q} : Ev d 95 37 [l0, l1, some (.ref a), l3] t h Q = Ev d 95 38 [l0, l1, some (.ref a), l3] (.ref a :: t) h Q := en_aload_n mm95 dX6_add_37 rfl
theorem i95_38 {d a l1 l2 l3 t h Q} : Ev d 95 38 [some (.ref a), l1, l2, l3] t h Q = Ev d 95 39 [some (.ref a), l1, l2, l3] (.ref a :: t) h Q := en_aload_n mm95 dX6_add_38 rfl
theorem i95_39 {d a l0 l1 l2 l3 t h Q} : Ev d 95 39 [l0, l1, l2, l3] (.ref a :: t) h Q = (hk h a = 7 ∧ Ev d 95 42 [l0, l1, l2, l3] (hF h a 7 :: t) h Q) := en_getfield (cj := 6) mm95 dX6_add_39 (by decide +kernel)
theorem i95_42 {d a l0 l1 l2 l3 t h Q} : Ev d 95 42 [l0, l1, l2, l3] (.ref a :: t) h Q = ((10 ≤ hk h a ∧ hk h a ≤ 16) ∧ Ev d 95 43 [l0, l1, l2, l3] (.int (nI (hl h a)) :: t) h Q) := en_arraylength mm95 dX6_add_42
theorem i95_43 {d l0 l1 l2 l3 t h Q} : Ev d 95 43 [l0, l1, l2, l3] t h Q = Ev d 95 46 [l0, l1, l2, l3] (.ref (hN h) :: t) (alO h 20 4 (dfl 9)) Q := en_new mm95 dX6_add_43 (by decide +kernel : look _ clsT = some (447, 9)) rfl
theorem i95_46 {d a l0 l1 l2 l3 t h Q} : Ev d 95 46 [l0, l1, l2, l3] (.ref a :: t) h Q = Ev d 95 47 [l0, l1, l2, l3] (.ref a :: .ref a :: t) h Q := en_dup mm95 dX6_add_46
theorem i95_47 {d l0 l2 l3 t x h Q} : Ev d 95 47 [l0, some (.int x), l2, l3] t h Q = Ev d 95 48 [l0, some (.int x), l2, l3] (.int x :: t) h Q := en_iload_n mm95 dX6_add_47 rfl
theorem i95_48 {d a l0 l1 l2 l3 x0 x2 x3 x4 h Q} : Ev (d + 1) 95 48 [l0, l1, l2, l3] [x0, .ref a, x2, x3, x4] h Q = (hk h a = 20 ∧ EvM d 103 [.ref a, x0] h (konN (d + 1) 95 51 [l0, l1, l2, l3] [x2, x3, x4] Q)) := en_specialN mm95 dX6_add_48 (by decide +kernel : ml _ _ = some (4, 103)) (by decide) (rfl : mtab[103]? = some _) (by decide +kernel : npar _ = 1) rfl (by decide) rfl (of_decide_eq_true rfl) (len_cat (of_decide_eq_true rfl)) rfl rfl rfl
theorem i95_51 {d l0 l1 l2 l3 t h Q j v a} (h0 : hk h a = 15) : Ev d 95 51 [l0, l1, l2, l3] (.ref v :: .int j :: .ref a :: t) h Q = (hk h v = 20 ∧ inb j (hl h a) ∧ Ev d 95 52 [l0, l1, l2, l3] t (wR h a (va_up (hR h a) j.toNatClampNeg (some v))) Q) := en_aastoreK mm95 dX6_add_51 (by decide) h0
theorem i95_52 {d a l1 l2 l3 t h Q} : Ev d 95 52 [some (.ref a), l1, l2, l3] t h Q = Ev d 95 53 [some (.ref a), l1, l2, l3] (.ref a :: t) h Q := en_aload_n mm95 dX6_add_52 rfl
theorem i95_53 {d a l0 l1 l3 t h Q} : Ev d 95 53 [l0, l1, some (.ref a), l3] t h Q = Ev d 95 54 [l0, l1, some (.ref a), l3] (.ref a :: t) h Q := en_aload_n mm95 dX6_add_53 rfl
theorem i95_54 {d a b l0 l1 l2 l3 t h Q} : Ev d 95 54 [l0, l1, l2, l3] (.ref b :: .ref a :: t) h Q = (hk h a = 7 ∧ Ev d 95 57 [l0, l1, l2, l3] t (wF h a 7 (.ref b)) Q) := en_putfield (cj := 6) mm95 dX6_add_54 (by decide +kernel) rfl
theorem i95_57 {d l0 l1 l2 l3 h Q} : Ev d 95 57 [l0, l1, l2, l3] [] h Q = Q (.inl none) h := en_return mm95 dX6_add_57 rfl
