/-! AN EQUATION FOR EACH INSTRUCTION -/
abbrev em73 : MI := (yX5_run, cX5_run, 4, some .int, 5, [])
theorem mm73 : mtab[73]? = some em73 := rfl
theorem in73 {d : Nat} {h : AH} {K : AO → AH → Prop} {v0 : Nat} {v1 : Int32} : EvM d 73 [(.ref v0), (.int v1)] h K = Ev d 73 0 [some (.ref v0), some (.int v1), none, none] [] h K := evm_in mm73 (of_decide_eq_true rfl) rfl
theorem i73_0 {d l0 l2 l3 t x h Q} : Ev d 73 0 [l0, some (.int x), l2, l3] t h Q = Ev d 73 1 [l0, some (.int x), l2, l3] (.int x :: t) h Q := en_iload_n mm73 dX5_run_0 rfl
theorem i73_1 {d l0 l1 l2 l3 t h Q} : Ev d 73 1 [l0, l1, l2, l3] t h Q = Ev d 73 2 [l0, l1, l2, l3] (.int 1 :: t) h Q := en_iconst mm73 dX5_run_1 (by decide)
theorem i73_2 {d l0 l1 l2 l3 t h Q} : Ev d 73 2 [l0, l1, l2, l3] t h Q = Ev d 73 4 [l0, l1, l2, l3] (.int 60 :: t) h Q := en_bipush mm73 dX5_run_2 (by decide)
theorem i73_4 {d l0 l1 l2 l3 x0 x1 x2 h Q} : Ev (d + 1) 73 4 [l0, l1, l2, l3] [x0, x1, x2] h Q = EvM d 81 [x2, x1, x0] h (konN (d + 1) 73 7 [l0, l1, l2, l3] [] Q) := en_staticN mm73 dX5_run_4 (by decide +kernel : ml _ _ = some (0, 81)) (by decide) (rfl : mtab[81]? = some _) (by decide +kernel : npar _ = 3) (of_decide_eq_true rfl) (len_cat (of_decide_eq_true rfl)) rfl rfl rfl
theorem i73_7 {d a l1 l2 l3 t h Q} : Ev d 73 7 [some (.ref a), l1, l2, l3] t h Q = Ev d 73 8 [some (.ref a), l1, l2, l3] (.ref a :: t) h Q := en_aload_n mm73 dX5_run_7 rfl
theorem i73_8 {d a l0 l1 l2 l3 h Q} : Ev (d + 1) 73 8 [l0, l1, l2, l3] [.ref a] h Q = (hk h a = 6 ∧ EvM d 80 [.ref a] h (konN (d + 1) 73 11 [l0, l1, l2, l3] [] Q)) := en_virtualN mm73 dX5_run_8 (by decide +kernel : ml _ _ = some (2, 80)) (by decide) (rfl : mtab[80]? = some _) (by decide +kernel : npar _ = 0) rfl (by decide) rfl (of_decide_eq_true rfl) (len_cat (of_decide_eq_true rfl)) rfl rfl rfl
theorem i73_11 {d a l1 l2 l3 t h Q} : Ev d 73 11 [some (.ref a), l1, l2, l3] t h Q = Ev d 73 12 [some (.ref a), l1, l2, l3] (.ref a :: t) h Q := en_aload_n mm73 dX5_run_11 rfl
theorem i73_12 {d a l0 l1 l2 l3 t h Q} : Ev d 73 12 [l0, l1, l2, l3] (.ref a :: t) h Q = (hk h a = 6 ∧ Ev d 73 15 [l0, l1, l2, l3] (hF h a 1 :: t) h Q) := en_getfield mm73 dX5_run_12 (by decide +kernel)
theorem i73_15 {d a l0 l1 l2 l3 t h Q} : Ev d 73 15 [l0, l1, l2, l3] (.ref a :: t) h Q = (hk h a = 3 ∧ Ev d 73 18 [l0, l1, l2, l3] (hF h a 1 :: t) h Q) := en_getfield mm73 dX5_run_15 (by decide +kernel)
theorem i73_18 {d l0 l2 l3 t x h Q} : Ev d 73 18 [l0, some (.int x), l2, l3] t h Q = Ev d 73 19 [l0, some (.int x), l2, l3] (.int x :: t) h Q := en_iload_n mm73 dX5_run_18 rfl
theorem i73_19 {d l0 l1 l2 l3 t x y h Q} : Ev d 73 19 [l0, l1, l2, l3] (.int y :: .int x :: t) h Q = Ev d 73 20 [l0, l1, l2, l3] (.int (x + y) :: t) h Q := en_iadd mm73 dX5_run_19
theorem i73_20 {d l0 l1 l2 l3 t h Q} : Ev d 73 20 [l0, l1, l2, l3] t h Q = Ev d 73 22 [l0, l1, l2, l3] (.int 100000 :: t) h Q := en_ldcI mm73 dX5_run_20 (by decide +kernel : look _ cstT = some (875, 100000)) (by decide)
theorem i73_22 {d l0 l1 l2 l3 t x y h Q} : Ev d 73 22 [l0, l1, l2, l3] (.int y :: .int x :: t) h Q = if x ≤ y then Ev d 73 35 [l0, l1, l2, l3] t h Q else Ev d 73 25 [l0, l1, l2, l3] t h Q := en_ic_le mm73 dX5_run_22 rfl
theorem i73_25 {d l0 l1 l2 l3 h Q} : Ev (d + 10) 73 25 [l0, l1, l2, l3] [] h Q = Q (.inr 1) (alH h) := en_throw mm73 dX5_run_25 (by decide +kernel) (athr_of (by decide +kernel : look _ exT = some (850, 1)) dX5_run_28 dX5_run_29 dX5_run_31 dX5_run_34 (by decide +kernel) (by decide +kernel) rfl)
theorem i73_28 {d a l0 l1 l2 l3 t h Q} : Ev d 73 28 [l0, l1, l2, l3] (.ref a :: t) h Q = Ev d 73 29 [l0, l1, l2, l3] (.ref a :: .ref a :: t) h Q := en_dup mm73 dX5_run_28
theorem i73_29 {d l0 l1 l2 l3 t h Q} : Ev d 73 29 [l0, l1, l2, l3] t h Q = Ev d 73 31 [l0, l1, l2, l3] (litV 12 :: t) h Q := en_ldcS mm73 dX5_run_29 (by decide +kernel) (by decide +kernel)
theorem i73_35 {d a l1 l2 l3 t h Q} : Ev d 73 35 [some (.ref a), l1, l2, l3] t h Q = Ev d 73 36 [some (.ref a), l1, l2, l3] (.ref a :: t) h Q := en_aload_n mm73 dX5_run_35 rfl
theorem i73_36 {d a l0 l1 l2 l3 t h Q} : Ev d 73 36 [l0, l1, l2, l3] (.ref a :: t) h Q = (hk h a = 6 ∧ Ev d 73 39 [l0, l1, l2, l3] (hF h a 3 :: t) h Q) := en_getfield mm73 dX5_run_36 (by decide +kernel)
theorem i73_39 {d a l1 l2 l3 t h Q} : Ev d 73 39 [some (.ref a), l1, l2, l3] t h Q = Ev d 73 40 [some (.ref a), l1, l2, l3] (.ref a :: t) h Q := en_aload_n mm73 dX5_run_39 rfl
theorem i73_40 {d a l0 l1 l2 l3 t h Q} : Ev d 73 40 [l0, l1, l2, l3] (.ref a :: t) h Q = (hk h a = 6 ∧ Ev d 73 43 [l0, l1, l2, l3] (hF h a 1 :: t) h Q) := en_getfield mm73 dX5_run_40 (by decide +kernel)
theorem i73_43 {d a l0 l1 l2 l3 x0 h Q} : Ev (d + 1) 73 43 [l0, l1, l2, l3] [x0, .ref a] h Q = (hk h a = 2 ∧ EvM d 4 [.ref a, x0] h (konN (d + 1) 73 46 [l0, l1, l2, l3] [] Q)) := en_virtualN mm73 dX5_run_43 (by decide +kernel : ml _ _ = some (3, 4)) (by decide) (rfl : mtab[4]? = some _) (by decide +kernel : npar _ = 1) rfl (by decide) rfl (of_decide_eq_true rfl) (len_cat (of_decide_eq_true rfl)) rfl rfl rfl
theorem i73_46 {d a l1 l2 l3 t h Q} : Ev d 73 46 [some (.ref a), l1, l2, l3] t h Q = Ev d 73 47 [some (.ref a), l1, l2, l3] (.ref a :: t) h Q := en_aload_n mm73 dX5_run_46 rfl
theorem i73_47 {d a l0 l1 l2 l3 t h Q} : Ev d 73 47 [l0, l1, l2, l3] (.ref a :: t) h Q = (hk h a = 6 ∧ Ev d 73 50 [l0, l1, l2, l3] (hF h a 1 :: t) h Q) := en_getfield mm73 dX5_run_47 (by decide +kernel)
theorem i73_50 {d l0 l1 l2 l3 t h Q} : Ev d 73 50 [l0, l1, l2, l3] t h Q = Ev d 73 51 [l0, l1, l2, l3] (.int 3 :: t) h Q := en_iconst mm73 dX5_run_50 (by decide)
theorem i73_51 {d a l0 l1 l2 l3 x0 h Q} : Ev (d + 1) 73 51 [l0, l1, l2, l3] [x0, .ref a] h Q = (hk h a = 3 ∧ EvM d 14 [.ref a, x0] h (konN (d + 1) 73 54 [l0, l1, l2, l3] [] Q)) := en_virtualN mm73 dX5_run_51 (by decide +kernel : ml _ _ = some (3, 14)) (by decide) (rfl : mtab[14]? = some _) (by decide +kernel : npar _ = 1) rfl (by decide) rfl (of_decide_eq_true rfl) (len_cat (of_decide_eq_true rfl)) rfl rfl rfl
theorem i73_54 {d l0 l1 l2 l3 t x h Q} : Ev d 73 54 [l0, l1, l2, l3] (.int x :: t) h Q = Ev d 73 55 [l0, nl l1, some (.int x), l3] t h Q := en_istore_n mm73 dX5_run_54 (of_decide_eq_true rfl) rfl
theorem i73_55 {d l0 l1 l2 l3 t h Q} : Ev d 73 55 [l0, l1, l2, l3] t h Q = Ev d 73 56 [l0, l1, l2, l3] (.int 0 :: t) h Q := en_iconst mm73 dX5_run_55 (by decide)
theorem i73_56 {d l0 l1 l2 l3 t x h Q} : Ev d 73 56 [l0, l1, l2, l3] (.int x :: t) h Q = Ev d 73 57 [l0, l1, nl l2, some (.int x)] t h Q := en_istore_n mm73 dX5_run_56 (of_decide_eq_true rfl) rfl
theorem i73_57 {d l0 l1 l2 t x h Q} : Ev d 73 57 [l0, l1, l2, some (.int x)] t h Q = Ev d 73 58 [l0, l1, l2, some (.int x)] (.int x :: t) h Q := en_iload_n mm73 dX5_run_57 rfl
theorem i73_58 {d l0 l2 l3 t x h Q} : Ev d 73 58 [l0, some (.int x), l2, l3] t h Q = Ev d 73 59 [l0, some (.int x), l2, l3] (.int x :: t) h Q := en_iload_n mm73 dX5_run_58 rfl
theorem i73_59 {d l0 l1 l2 l3 t x y h Q} : Ev d 73 59 [l0, l1, l2, l3] (.int y :: .int x :: t) h Q = if y ≤ x then Ev d 73 75 [l0, l1, l2, l3] t h Q else Ev d 73 62 [l0, l1, l2, l3] t h Q := en_ic_ge mm73 dX5_run_59 rfl
theorem i73_62 {d a l1 l2 l3 t h Q} : Ev d 73 62 [some (.ref a), l1, l2, l3] t h Q = Ev d 73 63 [some (.ref a), l1, l2, l3] (.ref a :: t) h Q := en_aload_n mm73 dX5_run_62 rfl
theorem i73_63 {d a l0 l1 l2 l3 t h Q} : Ev d 73 63 [l0, l1, l2, l3] (.ref a :: t) h Q = (hk h a = 6 ∧ Ev d 73 66 [l0, l1, l2, l3] (hF h a 1 :: t) h Q) := en_getfield mm73 dX5_run_63 (by decide +kernel)
theorem i73_66 {d a l0 l1 l2 l3 h Q} : Ev (d + 1) 73 66 [l0, l1, l2, l3] [.ref a] h Q = (hk h a = 3 ∧ EvM d 17 [.ref a] h (konN (d + 1) 73 69 [l0, l1, l2, l3] [] Q)) := en_virtualN mm73 dX5_run_66 (by decide +kernel : ml _ _ = some (3, 17)) (by decide) (rfl : mtab[17]? = some _) (by decide +kernel : npar _ = 0) rfl (by decide) rfl (of_decide_eq_true rfl) (len_cat (of_decide_eq_true rfl)) rfl rfl rfl
theorem i73_69 {d l0 l1 l2 t x h Q} : Ev d 73 69 [l0, l1, l2, some (.int x)] t h Q = Ev d 73 72 [l0, l1, nl l2, some (.int (x + 1))] t h Q := en_iinc mm73 dX5_run_69 rfl (by decide) rfl
theorem i73_72 {d l0 l1 l2 l3 t h Q} : Ev d 73 72 [l0, l1, l2, l3] t h Q = Ev d 73 57 [l0, l1, l2, l3] t h Q := en_goto mm73 dX5_run_72 rfl
theorem i73_75 {d a l1 l2 l3 t h Q} : Ev d 73 75 [some (.ref a), l1, l2, l3] t h Q = Ev d 73 76 [some (.ref a), l1, l2, l3] (.ref a :: t) h Q := en_aload_n mm73 dX5_run_75 rfl
theorem i73_76 {d a l0 l1 l2 l3 t h Q} : Ev d 73 76 [l0, l1, l2, l3] (.ref a :: t) h Q = (hk h a = 6 ∧ Ev d 73 79 [l0, l1, l2, l3] (hF h a 1 :: t) h Q) := en_getfield mm73 dX5_run_76 (by decide +kernel)
theorem i73_79 {d l0 l1 l2 l3 t h Q} : Ev d 73 79 [l0, l1, l2, l3] t h Q = Ev d 73 80 [l0, l1, l2, l3] (.int 3 :: t) h Q := en_iconst mm73 dX5_run_79 (by decide)
theorem i73_80 {d a l0 l1 l2 l3 x0 h Q} : Ev (d + 1) 73 80 [l0, l1, l2, l3] [x0, .ref a] h Q = (hk h a = 3 ∧ EvM d 14 [.ref a, x0] h (konN (d + 1) 73 83 [l0, l1, l2, l3] [] Q)) := en_virtualN mm73 dX5_run_80 (by decide +kernel : ml _ _ = some (3, 14)) (by decide) (rfl : mtab[14]? = some _) (by decide +kernel : npar _ = 1) rfl (by decide) rfl (of_decide_eq_true rfl) (len_cat (of_decide_eq_true rfl)) rfl rfl rfl
theorem i73_83 {d l0 l1 l3 t x h Q} : Ev d 73 83 [l0, l1, some (.int x), l3] t h Q = Ev d 73 84 [l0, l1, some (.int x), l3] (.int x :: t) h Q := en_iload_n mm73 dX5_run_83 rfl
theorem i73_84 {d l0 l1 l2 l3 t x y h Q} : Ev d 73 84 [l0, l1, l2, l3] (.int y :: .int x :: t) h Q = Ev d 73 85 [l0, l1, l2, l3] (.int (x - y) :: t) h Q := en_isub mm73 dX5_run_84
theorem i73_85 {d l0 l1 l2 l3 x h Q} : Ev d 73 85 [l0, l1, l2, l3] [.int x] h Q = Q (.inl (some (.int x))) h := en_ireturnI mm73 dX5_run_85 rfl
abbrev em74 : MI := (yX5_setPoint, cX5_setPoint, 4, some .int, 5, [])
theorem mm74 : mtab[74]? = some em74 := rfl
theorem in74 {d : Nat} {h : AH} {K : AO → AH → Prop} {v0 : Nat} {v1 : Int32} {v2 : Int32} : EvM d 74 [(.ref v0), (.int v1), (.int v2)] h K = Ev d 74 0 [some (.ref v0), some (.int v1), some (.int v2), none] [] h K := evm_in mm74 (of_decide_eq_true rfl) rfl
theorem i74_0 {d l0 l2 l3 t x h Q} : Ev d 74 0 [l0, some (.int x), l2, l3] t h Q = Ev d 74 1 [l0, some (.int x), l2, l3] (.int x :: t) h Q := en_iload_n mm74 dX5_setPoint_0 rfl
theorem i74_1 {d a l1 l2 l3 t h Q} : Ev d 74 1 [some (.ref a), l1, l2, l3] t h Q = Ev d 74 2 [some (.ref a), l1, l2, l3] (.ref a :: t) h Q := en_aload_n mm74 dX5_setPoint_1 rfl
theorem i74_2 {d a l0 l1 l2 l3 t h Q} : Ev d 74 2 [l0, l1, l2, l3] (.ref a :: t) h Q = (hk h a = 6 ∧ Ev d 74 5 [l0, l1, l2, l3] (hF h a 1 :: t) h Q) := en_getfield mm74 dX5_setPoint_2 (by decide +kernel)
theorem i74_5 {d a l0 l1 l2 l3 t h Q} : Ev d 74 5 [l0, l1, l2, l3] (.ref a :: t) h Q = (hk h a = 3 ∧ Ev d 74 8 [l0, l1, l2, l3] (hF h a 0 :: t) h Q) := en_getfield mm74 dX5_setPoint_5 (by decide +kernel)
theorem i74_8 {d a l0 l1 l2 l3 t h Q} : Ev d 74 8 [l0, l1, l2, l3] (.ref a :: t) h Q = (hk h a = 4 ∧ Ev d 74 11 [l0, l1, l2, l3] (hF h a 0 :: t) h Q) := en_getfield mm74 dX5_setPoint_8 (by decide +kernel)
theorem i74_11 {d l0 l1 l2 l3 x0 x1 h Q} : Ev (d + 1) 74 11 [l0, l1, l2, l3] [x0, x1] h Q = EvM d 82 [x1, x0] h (konN (d + 1) 74 14 [l0, l1, l2, l3] [] Q) := en_staticN mm74 dX5_setPoint_11 (by decide +kernel : ml _ _ = some (0, 82)) (by decide) (rfl : mtab[82]? = some _) (by decide +kernel : npar _ = 2) (of_decide_eq_true rfl) (len_cat (of_decide_eq_true rfl)) rfl rfl rfl
theorem i74_14 {d l0 l1 l3 t x h Q} : Ev d 74 14 [l0, l1, some (.int x), l3] t h Q = Ev d 74 15 [l0, l1, some (.int x), l3] (.int x :: t) h Q := en_iload_n mm74 dX5_setPoint_14 rfl
theorem i74_15 {d l0 l1 l2 l3 t h Q} : Ev d 74 15 [l0, l1, l2, l3] t h Q = Ev d 74 17 [l0, l1, l2, l3] (.int 100 :: t) h Q := en_bipush mm74 dX5_setPoint_15 (by decide)
theorem i74_17 {d l0 l1 l2 l3 t h Q} : Ev d 74 17 [l0, l1, l2, l3] t h Q = Ev d 74 20 [l0, l1, l2, l3] (.int 900 :: t) h Q := en_sipush mm74 dX5_setPoint_17 (by decide)
theorem i74_20 {d l0 l1 l2 l3 x0 x1 x2 h Q} : Ev (d + 1) 74 20 [l0, l1, l2, l3] [x0, x1, x2] h Q = EvM d 81 [x2, x1, x0] h (konN (d + 1) 74 23 [l0, l1, l2, l3] [] Q) := en_staticN mm74 dX5_setPoint_20 (by decide +kernel : ml _ _ = some (0, 81)) (by decide) (rfl : mtab[81]? = some _) (by decide +kernel : npar _ = 3) (of_decide_eq_true rfl) (len_cat (of_decide_eq_true rfl)) rfl rfl rfl
theorem i74_23 {d a l1 l2 l3 t h Q} : Ev d 74 23 [some (.ref a), l1, l2, l3] t h Q = Ev d 74 24 [some (.ref a), l1, l2, l3] (.ref a :: t) h Q := en_aload_n mm74 dX5_setPoint_23 rfl
theorem i74_24 {d a l0 l1 l2 l3 t h Q} : Ev d 74 24 [l0, l1, l2, l3] (.ref a :: t) h Q = (hk h a = 6 ∧ Ev d 74 27 [l0, l1, l2, l3] (hF h a 3 :: t) h Q) := en_getfield mm74 dX5_setPoint_24 (by decide +kernel)
theorem i74_27 {d a l1 l2 l3 t h Q} : Ev d 74 27 [some (.ref a), l1, l2, l3] t h Q = Ev d 74 28 [some (.ref a), l1, l2, l3] (.ref a :: t) h Q := en_aload_n mm74 dX5_setPoint_27 rfl
theorem i74_28 {d a l0 l1 l2 l3 t h Q} : Ev d 74 28 [l0, l1, l2, l3] (.ref a :: t) h Q = (hk h a = 6 ∧ Ev d 74 31 [l0, l1, l2, l3] (hF h a 1 :: t) h Q) := en_getfield mm74 dX5_setPoint_28 (by decide +kernel)
theorem i74_31 {d a l0 l1 l2 l3 x0 h Q} : Ev (d + 1) 74 31 [l0, l1, l2, l3] [x0, .ref a] h Q = (hk h a = 2 ∧ EvM d 4 [.ref a, x0] h (konN (d + 1) 74 34 [l0, l1, l2, l3] [] Q)) := en_virtualN mm74 dX5_setPoint_31 (by decide +kernel : ml _ _ = some (3, 4)) (by decide) (rfl : mtab[4]? = some _) (by decide +kernel : npar _ = 1) rfl (by decide) rfl (of_decide_eq_true rfl) (len_cat (of_decide_eq_true rfl)) rfl rfl rfl
theorem i74_34 {d a l1 l2 l3 t h Q} : Ev d 74 34 [some (.ref a), l1, l2, l3] t h Q = Ev d 74 35 [some (.ref a), l1, l2, l3] (.ref a :: t) h Q := en_aload_n mm74 dX5_setPoint_34 rfl
theorem i74_35 {d a l0 l1 l2 l3 t h Q} : Ev d 74 35 [l0, l1, l2, l3] (.ref a :: t) h Q = (hk h a = 6 ∧ Ev d 74 38 [l0, l1, l2, l3] (hF h a 1 :: t) h Q) := en_getfield mm74 dX5_setPoint_35 (by decide +kernel)
theorem i74_38 {d a l0 l1 l2 l3 t h Q} : Ev d 74 38 [l0, l1, l2, l3] (.ref a :: t) h Q = (hk h a = 3 ∧ Ev d 74 41 [l0, l1, l2, l3] (hF h a 5 :: t) h Q) := en_getfield mm74 dX5_setPoint_38 (by decide +kernel)
theorem i74_41 {d l0 l2 l3 t x h Q} : Ev d 74 41 [l0, some (.int x), l2, l3] t h Q = Ev d 74 42 [l0, some (.int x), l2, l3] (.int x :: t) h Q := en_iload_n mm74 dX5_setPoint_41 rfl
theorem i74_42 {d a j l0 l1 l2 l3 t h Q} : Ev d 74 42 [l0, l1, l2, l3] (.int j :: .ref a :: t) h Q = (hk h a = 10 ∧ inb j (hl h a) ∧ Ev d 74 43 [l0, l1, l2, l3] (.int (hA h a j.toNatClampNeg) :: t) h Q) := en_iaload mm74 dX5_setPoint_42
theorem i74_43 {d l0 l1 l2 l3 t x h Q} : Ev d 74 43 [l0, l1, l2, l3] (.int x :: t) h Q = Ev d 74 44 [l0, l1, nl l2, some (.int x)] t h Q := en_istore_n mm74 dX5_setPoint_43 (of_decide_eq_true rfl) rfl
theorem i74_44 {d a l1 l2 l3 t h Q} : Ev d 74 44 [some (.ref a), l1, l2, l3] t h Q = Ev d 74 45 [some (.ref a), l1, l2, l3] (.ref a :: t) h Q := en_aload_n mm74 dX5_setPoint_44 rfl
theorem i74_45 {d a l0 l1 l2 l3 t h Q} : Ev d 74 45 [l0, l1, l2, l3] (.ref a :: t) h Q = (hk h a = 6 ∧ Ev d 74 48 [l0, l1, l2, l3] (hF h a 1 :: t) h Q) := en_getfield mm74 dX5_setPoint_45 (by decide +kernel)
theorem i74_48 {d a l0 l1 l2 l3 t h Q} : Ev d 74 48 [l0, l1, l2, l3] (.ref a :: t) h Q = (hk h a = 3 ∧ Ev d 74 51 [l0, l1, l2, l3] (hF h a 5 :: t) h Q) := en_getfield mm74 dX5_setPoint_48 (by decide +kernel)
theorem i74_51 {d l0 l2 l3 t x h Q} : Ev d 74 51 [l0, some (.int x), l2, l3] t h Q = Ev d 74 52 [l0, some (.int x), l2, l3] (.int x :: t) h Q := en_iload_n mm74 dX5_setPoint_51 rfl
theorem i74_52 {d l0 l1 l3 t x h Q} : Ev d 74 52 [l0, l1, some (.int x), l3] t h Q = Ev d 74 53 [l0, l1, some (.int x), l3] (.int x :: t) h Q := en_iload_n mm74 dX5_setPoint_52 rfl
theorem i74_53 {d a j l0 l1 l2 l3 t x h Q} : Ev d 74 53 [l0, l1, l2, l3] (.int x :: .int j :: .ref a :: t) h Q = (hk h a = 10 ∧ inb j (hl h a) ∧ Ev d 74 54 [l0, l1, l2, l3] t (wA h a (upd (hA h a) j.toNatClampNeg x)) Q) := en_iastore mm74 dX5_setPoint_53
theorem i74_54 {d l0 l1 l2 t x h Q} : Ev d 74 54 [l0, l1, l2, some (.int x)] t h Q = Ev d 74 55 [l0, l1, l2, some (.int x)] (.int x :: t) h Q := en_iload_n mm74 dX5_setPoint_54 rfl
theorem i74_55 {d l0 l1 l2 l3 x h Q} : Ev d 74 55 [l0, l1, l2, l3] [.int x] h Q = Q (.inl (some (.int x))) h := en_ireturnI mm74 dX5_setPoint_55 rfl
abbrev em75 : MI := (yX5_setCorrection, cX5_setCorrection, 4, some .int, 5, [])
theorem mm75 : mtab[75]? = some em75 := rfl
theorem in75 {d : Nat} {h : AH} {K : AO → AH → Prop} {v0 : Nat} {v1 : Int32} {v2 : Int32} : EvM d 75 [(.ref v0), (.int v1), (.int v2)] h K = Ev d 75 0 [some (.ref v0), some (.int v1), some (.int v2), none] [] h K := evm_in mm75 (of_decide_eq_true rfl) rfl
theorem i75_0 {d l0 l2 l3 t x h Q} : Ev d 75 0 [l0, some (.int x), l2, l3] t h Q = Ev d 75 1 [l0, some (.int x), l2, l3] (.int x :: t) h Q := en_iload_n mm75 dX5_setCorrection_0 rfl
theorem i75_1 {d l0 l1 l2 l3 t h Q} : Ev d 75 1 [l0, l1, l2, l3] t h Q = Ev d 75 2 [l0, l1, l2, l3] (.int 2 :: t) h Q := en_iconst mm75 dX5_setCorrection_1 (by decide)
theorem i75_2 {d l0 l1 l2 l3 t h Q} : Ev d 75 2 [l0, l1, l2, l3] t h Q = Ev d 75 4 [l0, l1, l2, l3] (.int 19 :: t) h Q := en_bipush mm75 dX5_setCorrection_2 (by decide)
theorem i75_4 {d l0 l1 l2 l3 x0 x1 x2 h Q} : Ev (d + 1) 75 4 [l0, l1, l2, l3] [x0, x1, x2] h Q = EvM d 81 [x2, x1, x0] h (konN (d + 1) 75 7 [l0, l1, l2, l3] [] Q) := en_staticN mm75 dX5_setCorrection_4 (by decide +kernel : ml _ _ = some (0, 81)) (by decide) (rfl : mtab[81]? = some _) (by decide +kernel : npar _ = 3) (of_decide_eq_true rfl) (len_cat (of_decide_eq_true rfl)) rfl rfl rfl
theorem i75_7 {d l0 l1 l3 t x h Q} : Ev d 75 7 [l0, l1, some (.int x), l3] t h Q = Ev d 75 8 [l0, l1, some (.int x), l3] (.int x :: t) h Q := en_iload_n mm75 dX5_setCorrection_7 rfl
theorem i75_8 {d l0 l1 l2 l3 t h Q} : Ev d 75 8 [l0, l1, l2, l3] t h Q = Ev d 75 10 [l0, l1, l2, l3] (.int (-50) :: t) h Q := en_bipush mm75 dX5_setCorrection_8 (by decide)
theorem i75_10 {d l0 l1 l2 l3 t h Q} : Ev d 75 10 [l0, l1, l2, l3] t h Q = Ev d 75 12 [l0, l1, l2, l3] (.int 50 :: t) h Q := en_bipush mm75 dX5_setCorrection_10 (by decide)
theorem i75_12 {d l0 l1 l2 l3 x0 x1 x2 h Q} : Ev (d + 1) 75 12 [l0, l1, l2, l3] [x0, x1, x2] h Q = EvM d 81 [x2, x1, x0] h (konN (d + 1) 75 15 [l0, l1, l2, l3] [] Q) := en_staticN mm75 dX5_setCorrection_12 (by decide +kernel : ml _ _ = some (0, 81)) (by decide) (rfl : mtab[81]? = some _) (by decide +kernel : npar _ = 3) (of_decide_eq_true rfl) (len_cat (of_decide_eq_true rfl)) rfl rfl rfl
theorem i75_15 {d a l1 l2 l3 t h Q} : Ev d 75 15 [some (.ref a), l1, l2, l3] t h Q = Ev d 75 16 [some (.ref a), l1, l2, l3] (.ref a :: t) h Q := en_aload_n mm75 dX5_setCorrection_15 rfl
theorem i75_16 {d a l0 l1 l2 l3 h Q} : Ev (d + 1) 75 16 [l0, l1, l2, l3] [.ref a] h Q = (hk h a = 6 ∧ EvM d 80 [.ref a] h (konN (d + 1) 75 19 [l0, l1, l2, l3] [] Q)) := en_virtualN mm75 dX5_setCorrection_16 (by decide +kernel : ml _ _ = some (2, 80)) (by decide) (rfl : mtab[80]? = some _) (by decide +kernel : npar _ = 0) rfl (by decide) rfl (of_decide_eq_true rfl) (len_cat (of_decide_eq_true rfl)) rfl rfl rfl
theorem i75_19 {d a l1 l2 l3 t h Q} : Ev d 75 19 [some (.ref a), l1, l2, l3] t h Q = Ev d 75 20 [some (.ref a), l1, l2, l3] (.ref a :: t) h Q := en_aload_n mm75 dX5_setCorrection_19 rfl
theorem i75_20 {d a l0 l1 l2 l3 t h Q} : Ev d 75 20 [l0, l1, l2, l3] (.ref a :: t) h Q = (hk h a = 6 ∧ Ev d 75 23 [l0, l1, l2, l3] (hF h a 3 :: t) h Q) := en_getfield mm75 dX5_setCorrection_20 (by decide +kernel)
theorem i75_23 {d a l1 l2 l3 t h Q} : Ev d 75 23 [some (.ref a), l1, l2, l3] t h Q = Ev d 75 24 [some (.ref a), l1, l2, l3] (.ref a :: t) h Q := en_aload_n mm75 dX5_setCorrection_23 rfl
theorem i75_24 {d a l0 l1 l2 l3 t h Q} : Ev d 75 24 [l0, l1, l2, l3] (.ref a :: t) h Q = (hk h a = 6 ∧ Ev d 75 27 [l0, l1, l2, l3] (hF h a 1 :: t) h Q) := en_getfield mm75 dX5_setCorrection_24 (by decide +kernel)
theorem i75_27 {d a l0 l1 l2 l3 x0 h Q} : Ev (d + 1) 75 27 [l0, l1, l2, l3] [x0, .ref a] h Q = (hk h a = 2 ∧ EvM d 4 [.ref a, x0] h (konN (d + 1) 75 30 [l0, l1, l2, l3] [] Q)) := en_virtualN mm75 dX5_setCorrection_27 (by decide +kernel : ml _ _ = some (3, 4)) (by decide) (rfl : mtab[4]? = some _) (by decide +kernel : npar _ = 1) rfl (by decide) rfl (of_decide_eq_true rfl) (len_cat (of_decide_eq_true rfl)) rfl rfl rfl
theorem i75_30 {d a l1 l2 l3 t h Q} : Ev d 75 30 [some (.ref a), l1, l2, l3] t h Q = Ev d 75 31 [some (.ref a), l1, l2, l3] (.ref a :: t) h Q := en_aload_n mm75 dX5_setCorrection_30 rfl
theorem i75_31 {d a l0 l1 l2 l3 t h Q} : Ev d 75 31 [l0, l1, l2, l3] (.ref a :: t) h Q = (hk h a = 6 ∧ Ev d 75 34 [l0, l1, l2, l3] (hF h a 1 :: t) h Q) := en_getfield mm75 dX5_setCorrection_31 (by decide +kernel)
theorem i75_34 {d a l0 l1 l2 l3 t h Q} : Ev d 75 34 [l0, l1, l2, l3] (.ref a :: t) h Q = (hk h a = 3 ∧ Ev d 75 37 [l0, l1, l2, l3] (hF h a 14 :: t) h Q) := en_getfield mm75 dX5_setCorrection_34 (by decide +kernel)
theorem i75_37 {d l0 l2 l3 t x h Q} : Ev d 75 37 [l0, some (.int x), l2, l3] t h Q = Ev d 75 38 [l0, some (.int x), l2, l3] (.int x :: t) h Q := en_iload_n mm75 dX5_setCorrection_37 rfl
theorem i75_38 {d a j l0 l1 l2 l3 t h Q} : Ev d 75 38 [l0, l1, l2, l3] (.int j :: .ref a :: t) h Q = (hk h a = 10 ∧ inb j (hl h a) ∧ Ev d 75 39 [l0, l1, l2, l3] (.int (hA h a j.toNatClampNeg) :: t) h Q) := en_iaload mm75 dX5_setCorrection_38
theorem i75_39 {d l0 l1 l2 l3 t x h Q} : Ev d 75 39 [l0, l1, l2, l3] (.int x :: t) h Q = Ev d 75 40 [l0, l1, nl l2, some (.int x)] t h Q := en_istore_n mm75 dX5_setCorrection_39 (of_decide_eq_true rfl) rfl
theorem i75_40 {d a l1 l2 l3 t h Q} : Ev d 75 40 [some (.ref a), l1, l2, l3] t h Q = Ev d 75 41 [some (.ref a), l1, l2, l3] (.ref a :: t) h Q := en_aload_n mm75 dX5_setCorrection_40 rfl
theorem i75_41 {d a l0 l1 l2 l3 t h Q} : Ev d 75 41 [l0, l1, l2, l3] (.ref a :: t) h Q = (hk h a = 6 ∧ Ev d 75 44 [l0, l1, l2, l3] (hF h a 1 :: t) h Q) := en_getfield mm75 dX5_setCorrection_41 (by decide +kernel)
theorem i75_44 {d a l0 l1 l2 l3 t h Q} : Ev d 75 44 [l0, l1, l2, l3] (.ref a :: t) h Q = (hk h a = 3 ∧ Ev d 75 47 [l0, l1, l2, l3] (hF h a 14 :: t) h Q) := en_getfield mm75 dX5_setCorrection_44 (by decide +kernel)
theorem i75_47 {d l0 l2 l3 t x h Q} : Ev d 75 47 [l0, some (.int x), l2, l3] t h Q = Ev d 75 48 [l0, some (.int x), l2, l3] (.int x :: t) h Q := en_iload_n mm75 dX5_setCorrection_47 rfl
theorem i75_48 {d l0 l1 l3 t x h Q} : Ev d 75 48 [l0, l1, some (.int x), l3] t h Q = Ev d 75 49 [l0, l1, some (.int x), l3] (.int x :: t) h Q := en_iload_n mm75 dX5_setCorrection_48 rfl
theorem i75_49 {d a j l0 l1 l2 l3 t x h Q} : Ev d 75 49 [l0, l1, l2, l3] (.int x :: .int j :: .ref a :: t) h Q = (hk h a = 10 ∧ inb j (hl h a) ∧ Ev d 75 50 [l0, l1, l2, l3] t (wA h a (upd (hA h a) j.toNatClampNeg x)) Q) := en_iastore mm75 dX5_setCorrection_49
theorem i75_50 {d l0 l1 l2 t x h Q} : Ev d 75 50 [l0, l1, l2, some (.int x)] t h Q = Ev d 75 51 [l0, l1, l2, some (.int x)] (.int x :: t) h Q := en_iload_n mm75 dX5_setCorrection_50 rfl
theorem i75_51 {d l0 l1 l2 l3 x h Q} : Ev d 75 51 [l0, l1, l2, l3] [.int x] h Q = Q (.inl (some (.int x))) h := en_ireturnI mm75 dX5_setCorrection_51 rfl
abbrev em76 : MI := (yX5_scrap, cX5_scrap, 3, some .int, 5, [])
theorem mm76 : mtab[76]? = some em76 := rfl
theorem in76 {d : Nat} {h : AH} {K : AO → AH → Prop} {v0 : Nat} {v1 : Int32} : EvM d 76 [(.ref v0), (.int v1)] h K = Ev d 76 0 [some (.ref v0), some (.int v1), none] [] h K := evm_in mm76 (of_decide_eq_true rfl) rfl
theorem i76_0 {d l0 l2 t x h Q} : Ev d 76 0 [l0, some (.int x), l2] t h Q = Ev d 76 1 [l0, some (.int x), l2] (.int x :: t) h Q := en_iload_n mm76 dX5_scrap_0 rfl
theorem i76_1 {d a l1 l2 t h Q} : Ev d 76 1 [some (.ref a), l1, l2] t h Q = Ev d 76 2 [some (.ref a), l1, l2] (.ref a :: t) h Q := en_aload_n mm76 dX5_scrap_1 rfl
theorem i76_2 {d a l0 l1 l2 t h Q} : Ev d 76 2 [l0, l1, l2] (.ref a :: t) h Q = (hk h a = 6 ∧ Ev d 76 5 [l0, l1, l2] (hF h a 1 :: t) h Q) := en_getfield mm76 dX5_scrap_2 (by decide +kernel)
theorem i76_5 {d a l0 l1 l2 t h Q} : Ev d 76 5 [l0, l1, l2] (.ref a :: t) h Q = (hk h a = 3 ∧ Ev d 76 8 [l0, l1, l2] (hF h a 2 :: t) h Q) := en_getfield mm76 dX5_scrap_5 (by decide +kernel)
theorem i76_8 {d l0 l1 l2 x0 x1 h Q} : Ev (d + 1) 76 8 [l0, l1, l2] [x0, x1] h Q = EvM d 82 [x1, x0] h (konN (d + 1) 76 11 [l0, l1, l2] [] Q) := en_staticN mm76 dX5_scrap_8 (by decide +kernel : ml _ _ = some (0, 82)) (by decide) (rfl : mtab[82]? = some _) (by decide +kernel : npar _ = 2) (of_decide_eq_true rfl) (len_cat (of_decide_eq_true rfl)) rfl rfl rfl
theorem i76_11 {d a l1 l2 t h Q} : Ev d 76 11 [some (.ref a), l1, l2] t h Q = Ev d 76 12 [some (.ref a), l1, l2] (.ref a :: t) h Q := en_aload_n mm76 dX5_scrap_11 rfl
theorem i76_12 {d a l0 l1 l2 t h Q} : Ev d 76 12 [l0, l1, l2] (.ref a :: t) h Q = (hk h a = 6 ∧ Ev d 76 15 [l0, l1, l2] (hF h a 1 :: t) h Q) := en_getfield mm76 dX5_scrap_12 (by decide +kernel)
theorem i76_15 {d a l0 l1 l2 t h Q} : Ev d 76 15 [l0, l1, l2] (.ref a :: t) h Q = (hk h a = 3 ∧ Ev d 76 18 [l0, l1, l2] (hF h a 10 :: t) h Q) := en_getfield mm76 dX5_scrap_15 (by decide +kernel)
theorem i76_18 {d l0 l2 t x h Q} : Ev d 76 18 [l0, some (.int x), l2] t h Q = Ev d 76 19 [l0, some (.int x), l2] (.int x :: t) h Q := en_iload_n mm76 dX5_scrap_18 rfl
theorem i76_19 {d a j l0 l1 l2 t h Q} : Ev d 76 19 [l0, l1, l2] (.int j :: .ref a :: t) h Q = (hk h a = 10 ∧ inb j (hl h a) ∧ Ev d 76 20 [l0, l1, l2] (.int (hA h a j.toNatClampNeg) :: t) h Q) := en_iaload mm76 dX5_scrap_19
theorem i76_20 {d l0 l1 l2 t x h Q} : Ev d 76 20 [l0, l1, l2] (.int x :: t) h Q = Ev d 76 21 [l0, nl l1, some (.int x)] t h Q := en_istore_n mm76 dX5_scrap_20 (of_decide_eq_true rfl) rfl
theorem i76_21 {d l0 l1 t x h Q} : Ev d 76 21 [l0, l1, some (.int x)] t h Q = Ev d 76 22 [l0, l1, some (.int x)] (.int x :: t) h Q := en_iload_n mm76 dX5_scrap_21 rfl
theorem i76_22 {d l0 l1 l2 t x h Q} : Ev d 76 22 [l0, l1, l2] (.int x :: t) h Q = if x = 0 then Ev d 76 40 [l0, l1, l2] t h Q else Ev d 76 25 [l0, l1, l2] t h Q := en_if_eq mm76 dX5_scrap_22 rfl
theorem i76_25 {d l0 l1 t x h Q} : Ev d 76 25 [l0, l1, some (.int x)] t h Q = Ev d 76 26 [l0, l1, some (.int x)] (.int x :: t) h Q := en_iload_n mm76 dX5_scrap_25 rfl
theorem i76_26 {d l0 l1 l2 t h Q} : Ev d 76 26 [l0, l1, l2] t h Q = Ev d 76 27 [l0, l1, l2] (.int 1 :: t) h Q := en_iconst mm76 dX5_scrap_26 (by decide)
theorem i76_27 {d l0 l1 l2 t x y h Q} : Ev d 76 27 [l0, l1, l2] (.int y :: .int x :: t) h Q = if x = y then Ev d 76 40 [l0, l1, l2] t h Q else Ev d 76 30 [l0, l1, l2] t h Q := en_ic_eq mm76 dX5_scrap_27 rfl
theorem i76_30 {d l0 l1 l2 h Q} : Ev (d + 10) 76 30 [l0, l1, l2] [] h Q = Q (.inr 1) (alH h) := en_throw mm76 dX5_scrap_30 (by decide +kernel) (athr_of (by decide +kernel : look _ exT = some (850, 1)) dX5_scrap_33 dX5_scrap_34 dX5_scrap_36 dX5_scrap_39 (by decide +kernel) (by decide +kernel) rfl)
theorem i76_33 {d a l0 l1 l2 t h Q} : Ev d 76 33 [l0, l1, l2] (.ref a :: t) h Q = Ev d 76 34 [l0, l1, l2] (.ref a :: .ref a :: t) h Q := en_dup mm76 dX5_scrap_33
theorem i76_34 {d l0 l1 l2 t h Q} : Ev d 76 34 [l0, l1, l2] t h Q = Ev d 76 36 [l0, l1, l2] (litV 13 :: t) h Q := en_ldcS mm76 dX5_scrap_34 (by decide +kernel) (by decide +kernel)
theorem i76_40 {d a l1 l2 t h Q} : Ev d 76 40 [some (.ref a), l1, l2] t h Q = Ev d 76 41 [some (.ref a), l1, l2] (.ref a :: t) h Q := en_aload_n mm76 dX5_scrap_40 rfl
theorem i76_41 {d a l0 l1 l2 t h Q} : Ev d 76 41 [l0, l1, l2] (.ref a :: t) h Q = (hk h a = 6 ∧ Ev d 76 44 [l0, l1, l2] (hF h a 3 :: t) h Q) := en_getfield mm76 dX5_scrap_41 (by decide +kernel)
theorem i76_44 {d a l1 l2 t h Q} : Ev d 76 44 [some (.ref a), l1, l2] t h Q = Ev d 76 45 [some (.ref a), l1, l2] (.ref a :: t) h Q := en_aload_n mm76 dX5_scrap_44 rfl
theorem i76_45 {d a l0 l1 l2 t h Q} : Ev d 76 45 [l0, l1, l2] (.ref a :: t) h Q = (hk h a = 6 ∧ Ev d 76 48 [l0, l1, l2] (hF h a 1 :: t) h Q) := en_getfield mm76 dX5_scrap_45 (by decide +kernel)
theorem i76_48 {d a l0 l1 l2 x0 h Q} : Ev (d + 1) 76 48 [l0, l1, l2] [x0, .ref a] h Q = (hk h a = 2 ∧ EvM d 4 [.ref a, x0] h (konN (d + 1) 76 51 [l0, l1, l2] [] Q)) := en_virtualN mm76 dX5_scrap_48 (by decide +kernel : ml _ _ = some (3, 4)) (by decide) (rfl : mtab[4]? = some _) (by decide +kernel : npar _ = 1) rfl (by decide) rfl (of_decide_eq_true rfl) (len_cat (of_decide_eq_true rfl)) rfl rfl rfl
theorem i76_51 {d a l1 l2 t h Q} : Ev d 76 51 [some (.ref a), l1, l2] t h Q = Ev d 76 52 [some (.ref a), l1, l2] (.ref a :: t) h Q := en_aload_n mm76 dX5_scrap_51 rfl
theorem i76_52 {d a l0 l1 l2 t h Q} : Ev d 76 52 [l0, l1, l2] (.ref a :: t) h Q = (hk h a = 6 ∧ Ev d 76 55 [l0, l1, l2] (hF h a 1 :: t) h Q) := en_getfield mm76 dX5_scrap_52 (by decide +kernel)
theorem i76_55 {d l0 l2 t x h Q} : Ev d 76 55 [l0, some (.int x), l2] t h Q = Ev d 76 56 [l0, some (.int x), l2] (.int x :: t) h Q := en_iload_n mm76 dX5_scrap_55 rfl
theorem i76_56 {d a l0 l1 l2 x0 h Q} : Ev (d + 1) 76 56 [l0, l1, l2] [x0, .ref a] h Q = (hk h a = 3 ∧ EvM d 28 [.ref a, x0] h (konN (d + 1) 76 59 [l0, l1, l2] [] Q)) := en_virtualN mm76 dX5_scrap_56 (by decide +kernel : ml _ _ = some (3, 28)) (by decide) (rfl : mtab[28]? = some _) (by decide +kernel : npar _ = 1) rfl (by decide) rfl (of_decide_eq_true rfl) (len_cat (of_decide_eq_true rfl)) rfl rfl rfl
theorem i76_59 {d l0 l1 t x h Q} : Ev d 76 59 [l0, l1, some (.int x)] t h Q = Ev d 76 60 [l0, l1, some (.int x)] (.int x :: t) h Q := en_iload_n mm76 dX5_scrap_59 rfl
theorem i76_60 {d l0 l1 l2 x h Q} : Ev d 76 60 [l0, l1, l2] [.int x] h Q = Q (.inl (some (.int x))) h := en_ireturnI mm76 dX5_scrap_60 rfl
abbrev em77 : MI := (yX5_undo, cX5_undo, 1, some .int, 5, [])
theorem mm77 : mtab[77]? = some em77 := rfl
theorem in77 {d : Nat} {h : AH} {K : AO → AH → Prop} {v0 : Nat} : EvM d 77 [(.ref v0)] h K = Ev d 77 0 [some (.ref v0)] [] h K := evm_in mm77 (of_decide_eq_true rfl) rfl
theorem i77_0 {d a t h Q} : Ev d 77 0 [some (.ref a)] t h Q = Ev d 77 1 [some (.ref a)] (.ref a :: t) h Q := en_aload_n mm77 dX5_undo_0 rfl
theorem i77_1 {d a l0 t h Q} : Ev d 77 1 [l0] (.ref a :: t) h Q = (hk h a = 6 ∧ Ev d 77 4 [l0] (hF h a 3 :: t) h Q) := en_getfield mm77 dX5_undo_1 (by decide +kernel)
theorem i77_4 {d a t h Q} : Ev d 77 4 [some (.ref a)] t h Q = Ev d 77 5 [some (.ref a)] (.ref a :: t) h Q := en_aload_n mm77 dX5_undo_4 rfl
theorem i77_5 {d a l0 t h Q} : Ev d 77 5 [l0] (.ref a :: t) h Q = (hk h a = 6 ∧ Ev d 77 8 [l0] (hF h a 1 :: t) h Q) := en_getfield mm77 dX5_undo_5 (by decide +kernel)
theorem i77_8 {d a l0 x0 h Q} : Ev (d + 1) 77 8 [l0] [x0, .ref a] h Q = (hk h a = 2 ∧ EvM d 5 [.ref a, x0] h (konN (d + 1) 77 11 [l0] [] Q)) := en_virtualN mm77 dX5_undo_8 (by decide +kernel : ml _ _ = some (3, 5)) (by decide) (rfl : mtab[5]? = some _) (by decide +kernel : npar _ = 1) rfl (by decide) rfl (of_decide_eq_true rfl) (len_cat (of_decide_eq_true rfl)) rfl rfl rfl
theorem i77_11 {d l0 x h Q} : Ev d 77 11 [l0] [.int x] h Q = Q (.inl (some (.int x))) h := en_ireturnI mm77 dX5_undo_11 rfl
abbrev em78 : MI := (yX5_checksum, cX5_checksum, 1, some .long, 5, [])
theorem mm78 : mtab[78]? = some em78 := rfl
theorem in78 {d : Nat} {h : AH} {K : AO → AH → Prop} {v0 : Nat} : EvM d 78 [(.ref v0)] h K = Ev d 78 0 [some (.ref v0)] [] h K := evm_in mm78 (of_decide_eq_true rfl) rfl
theorem i78_0 {d a t h Q} : Ev d 78 0 [some (.ref a)] t h Q = Ev d 78 1 [some (.ref a)] (.ref a :: t) h Q := en_aload_n mm78 dX5_checksum_0 rfl
theorem i78_1 {d a l0 t h Q} : Ev d 78 1 [l0] (.ref a :: t) h Q = (hk h a = 6 ∧ Ev d 78 4 [l0] (hF h a 1 :: t) h Q) := en_getfield mm78 dX5_checksum_1 (by decide +kernel)
theorem i78_4 {d a l0 h Q} : Ev (d + 1) 78 4 [l0] [.ref a] h Q = (hk h a = 3 ∧ EvM d 29 [.ref a] h (konN (d + 1) 78 7 [l0] [] Q)) := en_virtualN mm78 dX5_checksum_4 (by decide +kernel : ml _ _ = some (3, 29)) (by decide) (rfl : mtab[29]? = some _) (by decide +kernel : npar _ = 0) rfl (by decide) rfl (of_decide_eq_true rfl) (len_cat (of_decide_eq_true rfl)) rfl rfl rfl
theorem i78_7 {d l0 x h Q} : Ev d 78 7 [l0] [.long x] h Q = Q (.inl (some (.long x))) h := en_lreturn mm78 dX5_checksum_7 rfl
abbrev em79 : MI := (yX5_doneWith, cX5_doneWith, 2, some .int, 5, [])
theorem mm79 : mtab[79]? = some em79 := rfl
theorem in79 {d : Nat} {h : AH} {K : AO → AH → Prop} {v0 : Nat} {v1 : Int32} : EvM d 79 [(.ref v0), (.int v1)] h K = Ev d 79 0 [some (.ref v0), some (.int v1)] [] h K := evm_in mm79 (of_decide_eq_true rfl) rfl
theorem i79_0 {d a l1 t h Q} : Ev d 79 0 [some (.ref a), l1] t h Q = Ev d 79 1 [some (.ref a), l1] (.ref a :: t) h Q := en_aload_n mm79 dX5_doneWith_0 rfl
theorem i79_1 {d a l0 l1 t h Q} : Ev d 79 1 [l0, l1] (.ref a :: t) h Q = (hk h a = 6 ∧ Ev d 79 4 [l0, l1] (hF h a 2 :: t) h Q) := en_getfield mm79 dX5_doneWith_1 (by decide +kernel)
theorem i79_4 {d a l1 t h Q} : Ev d 79 4 [some (.ref a), l1] t h Q = Ev d 79 5 [some (.ref a), l1] (.ref a :: t) h Q := en_aload_n mm79 dX5_doneWith_4 rfl
theorem i79_5 {d a l0 l1 t h Q} : Ev d 79 5 [l0, l1] (.ref a :: t) h Q = (hk h a = 6 ∧ Ev d 79 8 [l0, l1] (hF h a 1 :: t) h Q) := en_getfield mm79 dX5_doneWith_5 (by decide +kernel)
theorem i79_8 {d a l0 l1 x0 h Q} : Ev (d + 1) 79 8 [l0, l1] [x0, .ref a] h Q = (hk h a = 3 ∧ EvM d 13 [.ref a, x0] h (konN (d + 1) 79 11 [l0, l1] [] Q)) := en_virtualN mm79 dX5_doneWith_8 (by decide +kernel : ml _ _ = some (3, 13)) (by decide) (rfl : mtab[13]? = some _) (by decide +kernel : npar _ = 1) rfl (by decide) rfl (of_decide_eq_true rfl) (len_cat (of_decide_eq_true rfl)) rfl rfl rfl
theorem i79_11 {d a l1 t h Q} : Ev d 79 11 [some (.ref a), l1] t h Q = Ev d 79 12 [some (.ref a), l1] (.ref a :: t) h Q := en_aload_n mm79 dX5_doneWith_11 rfl
theorem i79_12 {d a l0 l1 t h Q} : Ev d 79 12 [l0, l1] (.ref a :: t) h Q = (hk h a = 6 ∧ Ev d 79 15 [l0, l1] (hF h a 2 :: t) h Q) := en_getfield mm79 dX5_doneWith_12 (by decide +kernel)
theorem i79_15 {d a l0 l1 h Q} : Ev (d + 1) 79 15 [l0, l1] [.ref a] h Q = (hk h a = 3 ∧ EvM d 7 [.ref a] h (konN (d + 1) 79 18 [l0, l1] [] Q)) := en_virtualN mm79 dX5_doneWith_15 (by decide +kernel : ml _ _ = some (3, 7)) (by decide) (rfl : mtab[7]? = some _) (by decide +kernel : npar _ = 0) rfl (by decide) rfl (of_decide_eq_true rfl) (len_cat (of_decide_eq_true rfl)) rfl rfl rfl
theorem i79_18 {d l0 l1 t x h Q} : Ev d 79 18 [l0, l1] (.int x :: t) h Q = if x = 0 then Ev d 79 42 [l0, l1] t h Q else Ev d 79 21 [l0, l1] t h Q := en_if_eq mm79 dX5_doneWith_18 rfl
theorem i79_21 {d a l1 t h Q} : Ev d 79 21 [some (.ref a), l1] t h Q = Ev d 79 22 [some (.ref a), l1] (.ref a :: t) h Q := en_aload_n mm79 dX5_doneWith_21 rfl
theorem i79_22 {d a l0 l1 t h Q} : Ev d 79 22 [l0, l1] (.ref a :: t) h Q = (hk h a = 6 ∧ Ev d 79 25 [l0, l1] (hF h a 2 :: t) h Q) := en_getfield mm79 dX5_doneWith_22 (by decide +kernel)
theorem i79_25 {d a l0 l1 t h Q} : Ev d 79 25 [l0, l1] (.ref a :: t) h Q = (hk h a = 3 ∧ Ev d 79 28 [l0, l1] (hF h a 5 :: t) h Q) := en_getfield mm79 dX5_doneWith_25 (by decide +kernel)
theorem i79_28 {d a l1 t h Q} : Ev d 79 28 [some (.ref a), l1] t h Q = Ev d 79 29 [some (.ref a), l1] (.ref a :: t) h Q := en_aload_n mm79 dX5_doneWith_28 rfl
theorem i79_29 {d a l0 l1 t h Q} : Ev d 79 29 [l0, l1] (.ref a :: t) h Q = (hk h a = 6 ∧ Ev d 79 32 [l0, l1] (hF h a 2 :: t) h Q) := en_getfield mm79 dX5_doneWith_29 (by decide +kernel)
theorem i79_32 {d a l0 l1 t h Q} : Ev d 79 32 [l0, l1] (.ref a :: t) h Q = (hk h a = 3 ∧ Ev d 79 35 [l0, l1] (hF h a 0 :: t) h Q) := en_getfield mm79 dX5_doneWith_32 (by decide +kernel)
theorem i79_35 {d a l0 l1 t h Q} : Ev d 79 35 [l0, l1] (.ref a :: t) h Q = (hk h a = 4 ∧ Ev d 79 38 [l0, l1] (hF h a 0 :: t) h Q) := en_getfield mm79 dX5_doneWith_35 (by decide +kernel)
theorem i79_38 {d l0 l1 t h Q} : Ev d 79 38 [l0, l1] t h Q = Ev d 79 39 [l0, l1] (.int 1 :: t) h Q := en_iconst mm79 dX5_doneWith_38 (by decide)
theorem i79_39 {d l0 l1 t x y h Q} : Ev d 79 39 [l0, l1] (.int y :: .int x :: t) h Q = Ev d 79 40 [l0, l1] (.int (x - y) :: t) h Q := en_isub mm79 dX5_doneWith_39
theorem i79_40 {d l0 t x h Q} : Ev d 79 40 [l0, some (.int x)] t h Q = Ev d 79 41 [l0, some (.int x)] (.int x :: t) h Q := en_iload_n mm79 dX5_doneWith_40 rfl
theorem i79_41 {d a j l0 l1 t x h Q} : Ev d 79 41 [l0, l1] (.int x :: .int j :: .ref a :: t) h Q = (hk h a = 10 ∧ inb j (hl h a) ∧ Ev d 79 42 [l0, l1] t (wA h a (upd (hA h a) j.toNatClampNeg x)) Q) := en_iastore mm79 dX5_doneWith_41
theorem i79_42 {d a l1 t h Q} : Ev d 79 42 [some (.ref a), l1] t h Q = Ev d 79 43 [some (.ref a), l1] (.ref a :: t) h Q := en_aload_n mm79 dX5_doneWith_42 rfl
theorem i79_43 {d a l0 l1 t h Q} : Ev d 79 43 [l0, l1] (.ref a :: t) h Q = (hk h a = 6 ∧ Ev d 79 46 [l0, l1] (hF h a 2 :: t) h Q) := en_getfield mm79 dX5_doneWith_43 (by decide +kernel)
theorem i79_46 {d l0 l1 t h Q} : Ev d 79 46 [l0, l1] t h Q = Ev d 79 49 [l0, l1] (.int 200 :: t) h Q := en_sipush mm79 dX5_doneWith_46 (by decide)
theorem i79_49 {d a l0 l1 x0 h Q} : Ev (d + 1) 79 49 [l0, l1] [x0, .ref a] h Q = (hk h a = 3 ∧ EvM d 16 [.ref a, x0] h (konN (d + 1) 79 52 [l0, l1] [] Q)) := en_virtualN mm79 dX5_doneWith_49 (by decide +kernel : ml _ _ = some (3, 16)) (by decide) (rfl : mtab[16]? = some _) (by decide +kernel : npar _ = 1) rfl (by decide) rfl (of_decide_eq_true rfl) (len_cat (of_decide_eq_true rfl)) rfl rfl rfl
theorem i79_52 {d l0 l1 t x h Q} : Ev d 79 52 [l0, l1] (.int x :: t) h Q = Ev d 79 53 [l0, l1] t h Q := en_popI mm79 dX5_doneWith_52
theorem i79_53 {d a l1 t h Q} : Ev d 79 53 [some (.ref a), l1] t h Q = Ev d 79 54 [some (.ref a), l1] (.ref a :: t) h Q := en_aload_n mm79 dX5_doneWith_53 rfl
theorem i79_54 {d a l0 l1 t h Q} : Ev d 79 54 [l0, l1] (.ref a :: t) h Q = (hk h a = 6 ∧ Ev d 79 57 [l0, l1] (hF h a 2 :: t) h Q) := en_getfield mm79 dX5_doneWith_54 (by decide +kernel)
theorem i79_57 {d l0 l1 t h Q} : Ev d 79 57 [l0, l1] t h Q = Ev d 79 58 [l0, l1] (.int 3 :: t) h Q := en_iconst mm79 dX5_doneWith_57 (by decide)
theorem i79_58 {d a l0 l1 x0 h Q} : Ev (d + 1) 79 58 [l0, l1] [x0, .ref a] h Q = (hk h a = 3 ∧ EvM d 14 [.ref a, x0] h (konN (d + 1) 79 61 [l0, l1] [] Q)) := en_virtualN mm79 dX5_doneWith_58 (by decide +kernel : ml _ _ = some (3, 14)) (by decide) (rfl : mtab[14]? = some _) (by decide +kernel : npar _ = 1) rfl (by decide) rfl (of_decide_eq_true rfl) (len_cat (of_decide_eq_true rfl)) rfl rfl rfl
theorem i79_61 {d l0 l1 x h Q} : Ev d 79 61 [l0, l1] [.int x] h Q = Q (.inl (some (.int x))) h := en_ireturnI mm79 dX5_doneWith_61 rfl
abbrev em80 : MI := (yX5_requireLine, cX5_requireLine, 1, none, 5, [])
theorem mm80 : mtab[80]? = some em80 := rfl
theorem in80 {d : Nat} {h : AH} {K : AO → AH → Prop} {v0 : Nat} : EvM d 80 [(.ref v0)] h K = Ev d 80 0 [some (.ref v0)] [] h K := evm_in mm80 (of_decide_eq_true rfl) rfl
theorem i80_0 {d a t h Q} : Ev d 80 0 [some (.ref a)] t h Q = Ev d 80 1 [some (.ref a)] (.ref a :: t) h Q := en_aload_n mm80 dX5_requireLine_0 rfl
theorem i80_1 {d a l0 t h Q} : Ev d 80 1 [l0] (.ref a :: t) h Q = (hk h a = 6 ∧ Ev d 80 4 [l0] (hF h a 1 :: t) h Q) := en_getfield mm80 dX5_requireLine_1 (by decide +kernel)
theorem i80_4 {d a l0 h Q} : Ev (d + 1) 80 4 [l0] [.ref a] h Q = (hk h a = 3 ∧ EvM d 7 [.ref a] h (konN (d + 1) 80 7 [l0] [] Q)) := en_virtualN mm80 dX5_requireLine_4 (by decide +kernel : ml _ _ = some (3, 7)) (by decide) (rfl : mtab[7]? = some _) (by decide +kernel : npar _ = 0) rfl (by decide) rfl (of_decide_eq_true rfl) (len_cat (of_decide_eq_true rfl)) rfl rfl rfl
theorem i80_7 {d l0 t x h Q} : Ev d 80 7 [l0] (.int x :: t) h Q = if x = 0 then Ev d 80 10 [l0] t h Q else Ev d 80 20 [l0] t h Q := en_if_ne mm80 dX5_requireLine_7 rfl
theorem i80_10 {d l0 h Q} : Ev (d + 10) 80 10 [l0] [] h Q = Q (.inr 1) (alH h) := en_throw mm80 dX5_requireLine_10 (by decide +kernel) (athr_of (by decide +kernel : look _ exT = some (850, 1)) dX5_requireLine_13 dX5_requireLine_14 dX5_requireLine_16 dX5_requireLine_19 (by decide +kernel) (by decide +kernel) rfl)
theorem i80_13 {d a l0 t h Q} : Ev d 80 13 [l0] (.ref a :: t) h Q = Ev d 80 14 [l0] (.ref a :: .ref a :: t) h Q := en_dup mm80 dX5_requireLine_13
theorem i80_14 {d l0 t h Q} : Ev d 80 14 [l0] t h Q = Ev d 80 16 [l0] (litV 10 :: t) h Q := en_ldcS mm80 dX5_requireLine_14 (by decide +kernel) (by decide +kernel)
theorem i80_20 {d l0 h Q} : Ev d 80 20 [l0] [] h Q = Q (.inl none) h := en_return mm80 dX5_requireLine_20 rfl
abbrev em81 : MI := (yX5_requireArgument, cX5_requireArgument, 3, none, 5, [])
theorem mm81 : mtab[81]? = some em81 := rfl
theorem in81 {d : Nat} {h : AH} {K : AO → AH → Prop} {v0 : Int32} {v1 : Int32} {v2 : Int32} : EvM d 81 [(.int v0), (.int v1), (.int v2)] h K = Ev d 81 0 [some (.int v0), some (.int v1), some (.int v2)] [] h K := evm_in mm81 (of_decide_eq_true rfl) rfl
theorem i81_0 {d l1 l2 t x h Q} : Ev d 81 0 [some (.int x), l1, l2] t h Q = Ev d 81 1 [some (.int x), l1, l2] (.int x :: t) h Q := en_iload_n mm81 dX5_requireArgument_0 rfl
theorem i81_1 {d l0 l2 t x h Q} : Ev d 81 1 [l0, some (.int x), l2] t h Q = Ev d 81 2 [l0, some (.int x), l2] (.int x :: t) h Q := en_iload_n mm81 dX5_requireArgument_1 rfl
theorem i81_2 {d l0 l1 t x h Q} : Ev d 81 2 [l0, l1, some (.int x)] t h Q = Ev d 81 3 [l0, l1, some (.int x)] (.int x :: t) h Q := en_iload_n mm81 dX5_requireArgument_2 rfl
theorem i81_3 {d l0 l1 l2 x0 x1 x2 h Q} : Ev (d + 1) 81 3 [l0, l1, l2] [x0, x1, x2] h Q = EvM d 83 [x2, x1, x0] h (konN (d + 1) 81 6 [l0, l1, l2] [] Q) := en_staticN mm81 dX5_requireArgument_3 (by decide +kernel : ml _ _ = some (0, 83)) (by decide) (rfl : mtab[83]? = some _) (by decide +kernel : npar _ = 3) (of_decide_eq_true rfl) (len_cat (of_decide_eq_true rfl)) rfl rfl rfl
theorem i81_6 {d l0 l1 l2 t x h Q} : Ev d 81 6 [l0, l1, l2] (.int x :: t) h Q = if x = 0 then Ev d 81 9 [l0, l1, l2] t h Q else Ev d 81 19 [l0, l1, l2] t h Q := en_if_ne mm81 dX5_requireArgument_6 rfl
theorem i81_9 {d l0 l1 l2 h Q} : Ev (d + 10) 81 9 [l0, l1, l2] [] h Q = Q (.inr 0) (alH h) := en_throw mm81 dX5_requireArgument_9 (by decide +kernel) (athr_of (by decide +kernel : look _ exT = some (517, 0)) dX5_requireArgument_12 dX5_requireArgument_13 dX5_requireArgument_15 dX5_requireArgument_18 (by decide +kernel) (by decide +kernel) rfl)
theorem i81_12 {d a l0 l1 l2 t h Q} : Ev d 81 12 [l0, l1, l2] (.ref a :: t) h Q = Ev d 81 13 [l0, l1, l2] (.ref a :: .ref a :: t) h Q := en_dup mm81 dX5_requireArgument_12
theorem i81_13 {d l0 l1 l2 t h Q} : Ev d 81 13 [l0, l1, l2] t h Q = Ev d 81 15 [l0, l1, l2] (litV 6 :: t) h Q := en_ldcS mm81 dX5_requireArgument_13 (by decide +kernel) (by decide +kernel)
theorem i81_19 {d l0 l1 l2 h Q} : Ev d 81 19 [l0, l1, l2] [] h Q = Q (.inl none) h := en_return mm81 dX5_requireArgument_19 rfl
abbrev em82 : MI := (yX5_requireIndex, cX5_requireIndex, 2, none, 5, [])
theorem mm82 : mtab[82]? = some em82 := rfl
theorem in82 {d : Nat} {h : AH} {K : AO → AH → Prop} {v0 : Int32} {v1 : Int32} : EvM d 82 [(.int v0), (.int v1)] h K = Ev d 82 0 [some (.int v0), some (.int v1)] [] h K := evm_in mm82 (of_decide_eq_true rfl) rfl
theorem i82_0 {d l1 t x h Q} : Ev d 82 0 [some (.int x), l1] t h Q = Ev d 82 1 [some (.int x), l1] (.int x :: t) h Q := en_iload_n mm82 dX5_requireIndex_0 rfl
theorem i82_1 {d l0 l1 t x h Q} : Ev d 82 1 [l0, l1] (.int x :: t) h Q = if x < 0 then Ev d 82 9 [l0, l1] t h Q else Ev d 82 4 [l0, l1] t h Q := en_if_lt mm82 dX5_requireIndex_1 rfl
theorem i82_4 {d l1 t x h Q} : Ev d 82 4 [some (.int x), l1] t h Q = Ev d 82 5 [some (.int x), l1] (.int x :: t) h Q := en_iload_n mm82 dX5_requireIndex_4 rfl
theorem i82_5 {d l0 t x h Q} : Ev d 82 5 [l0, some (.int x)] t h Q = Ev d 82 6 [l0, some (.int x)] (.int x :: t) h Q := en_iload_n mm82 dX5_requireIndex_5 rfl
theorem i82_6 {d l0 l1 t x y h Q} : Ev d 82 6 [l0, l1] (.int y :: .int x :: t) h Q = if x < y then Ev d 82 19 [l0, l1] t h Q else Ev d 82 9 [l0, l1] t h Q := en_ic_lt mm82 dX5_requireIndex_6 rfl
theorem i82_9 {d l0 l1 h Q} : Ev (d + 10) 82 9 [l0, l1] [] h Q = Q (.inr 2) (alH h) := en_throw mm82 dX5_requireIndex_9 (by decide +kernel) (athr_of (by decide +kernel : look _ exT = some (738, 2)) dX5_requireIndex_12 dX5_requireIndex_13 dX5_requireIndex_15 dX5_requireIndex_18 (by decide +kernel) (by decide +kernel) rfl)
theorem i82_12 {d a l0 l1 t h Q} : Ev d 82 12 [l0, l1] (.ref a :: t) h Q = Ev d 82 13 [l0, l1] (.ref a :: .ref a :: t) h Q := en_dup mm82 dX5_requireIndex_12
theorem i82_13 {d l0 l1 t h Q} : Ev d 82 13 [l0, l1] t h Q = Ev d 82 15 [l0, l1] (litV 7 :: t) h Q := en_ldcS mm82 dX5_requireIndex_13 (by decide +kernel) (by decide +kernel)
theorem i82_19 {d l0 l1 h Q} : Ev d 82 19 [l0, l1] [] h Q = Q (.inl none) h := en_return mm82 dX5_requireIndex_19 rfl
abbrev em83 : MI := (yX5_isWithin, cX5_isWithin, 3, some .boolean, 5, [])
theorem mm83 : mtab[83]? = some em83 := rfl
theorem in83 {d : Nat} {h : AH} {K : AO → AH → Prop} {v0 : Int32} {v1 : Int32} {v2 : Int32} : EvM d 83 [(.int v0), (.int v1), (.int v2)] h K = Ev d 83 0 [some (.int v0), some (.int v1), some (.int v2)] [] h K := evm_in mm83 (of_decide_eq_true rfl) rfl
theorem i83_0 {d l1 l2 t x h Q} : Ev d 83 0 [some (.int x), l1, l2] t h Q = Ev d 83 1 [some (.int x), l1, l2] (.int x :: t) h Q := en_iload_n mm83 dX5_isWithin_0 rfl
theorem i83_1 {d l0 l2 t x h Q} : Ev d 83 1 [l0, some (.int x), l2] t h Q = Ev d 83 2 [l0, some (.int x), l2] (.int x :: t) h Q := en_iload_n mm83 dX5_isWithin_1 rfl
theorem i83_2 {d l0 l1 l2 t x y h Q} : Ev d 83 2 [l0, l1, l2] (.int y :: .int x :: t) h Q = if x < y then Ev d 83 14 [l0, l1, l2] t h Q else Ev d 83 5 [l0, l1, l2] t h Q := en_ic_lt mm83 dX5_isWithin_2 rfl
theorem i83_5 {d l1 l2 t x h Q} : Ev d 83 5 [some (.int x), l1, l2] t h Q = Ev d 83 6 [some (.int x), l1, l2] (.int x :: t) h Q := en_iload_n mm83 dX5_isWithin_5 rfl
theorem i83_6 {d l0 l1 t x h Q} : Ev d 83 6 [l0, l1, some (.int x)] t h Q = Ev d 83 7 [l0, l1, some (.int x)] (.int x :: t) h Q := en_iload_n mm83 dX5_isWithin_6 rfl
theorem i83_7 {d l0 l1 l2 t x y h Q} : Ev d 83 7 [l0, l1, l2] (.int y :: .int x :: t) h Q = if y < x then Ev d 83 14 [l0, l1, l2] t h Q else Ev d 83 10 [l0, l1, l2] t h Q := en_ic_gt mm83 dX5_isWithin_7 rfl
theorem i83_10 {d l0 l1 l2 t h Q} : Ev d 83 10 [l0, l1, l2] t h Q = Ev d 83 11 [l0, l1, l2] (.int 1 :: t) h Q := en_iconst mm83 dX5_isWithin_10 (by decide)
theorem i83_11 {d l0 l1 l2 t h Q} : Ev d 83 11 [l0, l1, l2] t h Q = Ev d 83 15 [l0, l1, l2] t h Q := en_goto mm83 dX5_isWithin_11 rfl
theorem i83_14 {d l0 l1 l2 t h Q} : Ev d 83 14 [l0, l1, l2] t h Q = Ev d 83 15 [l0, l1, l2] (.int 0 :: t) h Q := en_iconst mm83 dX5_isWithin_14 (by decide)
theorem i83_15 {d l0 l1 l2 x h Q} : Ev d 83 15 [l0, l1, l2] [.int x] h Q = (narrow .boolean (.int x) = .int x ∧ Q (.inl (some (.int x))) h) := en_ireturn mm83 dX5_isWithin_15 rfl
abbrev em84 : MI := (yX5_isThickness, cX5_isThickness, 1, some .boolean, 5, [])
theorem mm84 : mtab[84]? = some em84 := rfl
theorem in84 {d : Nat} {h : AH} {K : AO → AH → Prop} {v0 : Int32} : EvM d 84 [(.int v0)] h K = Ev d 84 0 [some (.int v0)] [] h K := evm_in mm84 (of_decide_eq_true rfl) rfl
theorem i84_0 {d t x h Q} : Ev d 84 0 [some (.int x)] t h Q = Ev d 84 1 [some (.int x)] (.int x :: t) h Q := en_iload_n mm84 dX5_isThickness_0 rfl
theorem i84_1 {d l0 t h Q} : Ev d 84 1 [l0] t h Q = Ev d 84 2 [l0] (.int 2 :: t) h Q := en_iconst mm84 dX5_isThickness_1 (by decide)
theorem i84_2 {d l0 t h Q} : Ev d 84 2 [l0] t h Q = Ev d 84 4 [l0] (.int 19 :: t) h Q := en_bipush mm84 dX5_isThickness_2 (by decide)
theorem i84_4 {d l0 x0 x1 x2 h Q} : Ev (d + 1) 84 4 [l0] [x0, x1, x2] h Q = EvM d 83 [x2, x1, x0] h (konN (d + 1) 84 7 [l0] [] Q) := en_staticN mm84 dX5_isThickness_4 (by decide +kernel : ml _ _ = some (0, 83)) (by decide) (rfl : mtab[83]? = some _) (by decide +kernel : npar _ = 3) (of_decide_eq_true rfl) (len_cat (of_decide_eq_true rfl)) rfl rfl rfl
theorem i84_7 {d l0 x h Q} : Ev d 84 7 [l0] [.int x] h Q = (narrow .boolean (.int x) = .int x ∧ Q (.inl (some (.int x))) h) := en_ireturn mm84 dX5_isThickness_7 rfl
abbrev em85 : MI := (yX5_limit, cX5_limit, 3, some .int, 5, [])
theorem mm85 : mtab[85]? = some em85 := rfl
theorem in85 {d : Nat} {h : AH} {K : AO → AH → Prop} {v0 : Int32} {v1 : Int32} {v2 : Int32} : EvM d 85 [(.int v0), (.int v1), (.int v2)] h K = Ev d 85 0 [some (.int v0), some (.int v1), some (.int v2)] [] h K := evm_in mm85 (of_decide_eq_true rfl) rfl
theorem i85_0 {d l1 l2 t x h Q} : Ev d 85 0 [some (.int x), l1, l2] t h Q = Ev d 85 1 [some (.int x), l1, l2] (.int x :: t) h Q := en_iload_n mm85 dX5_limit_0 rfl
theorem i85_1 {d l0 l2 t x h Q} : Ev d 85 1 [l0, some (.int x), l2] t h Q = Ev d 85 2 [l0, some (.int x), l2] (.int x :: t) h Q := en_iload_n mm85 dX5_limit_1 rfl
theorem i85_2 {d l0 l1 l2 t x y h Q} : Ev d 85 2 [l0, l1, l2] (.int y :: .int x :: t) h Q = if y ≤ x then Ev d 85 9 [l0, l1, l2] t h Q else Ev d 85 5 [l0, l1, l2] t h Q := en_ic_ge mm85 dX5_limit_2 rfl
theorem i85_5 {d l0 l2 t x h Q} : Ev d 85 5 [l0, some (.int x), l2] t h Q = Ev d 85 6 [l0, some (.int x), l2] (.int x :: t) h Q := en_iload_n mm85 dX5_limit_5 rfl
theorem i85_6 {d l0 l1 l2 t h Q} : Ev d 85 6 [l0, l1, l2] t h Q = Ev d 85 19 [l0, l1, l2] t h Q := en_goto mm85 dX5_limit_6 rfl
theorem i85_9 {d l1 l2 t x h Q} : Ev d 85 9 [some (.int x), l1, l2] t h Q = Ev d 85 10 [some (.int x), l1, l2] (.int x :: t) h Q := en_iload_n mm85 dX5_limit_9 rfl
theorem i85_10 {d l0 l1 t x h Q} : Ev d 85 10 [l0, l1, some (.int x)] t h Q = Ev d 85 11 [l0, l1, some (.int x)] (.int x :: t) h Q := en_iload_n mm85 dX5_limit_10 rfl
theorem i85_11 {d l0 l1 l2 t x y h Q} : Ev d 85 11 [l0, l1, l2] (.int y :: .int x :: t) h Q = if x ≤ y then Ev d 85 18 [l0, l1, l2] t h Q else Ev d 85 14 [l0, l1, l2] t h Q := en_ic_le mm85 dX5_limit_11 rfl
theorem i85_14 {d l0 l1 t x h Q} : Ev d 85 14 [l0, l1, some (.int x)] t h Q = Ev d 85 15 [l0, l1, some (.int x)] (.int x :: t) h Q := en_iload_n mm85 dX5_limit_14 rfl
theorem i85_15 {d l0 l1 l2 t h Q} : Ev d 85 15 [l0, l1, l2] t h Q = Ev d 85 19 [l0, l1, l2] t h Q := en_goto mm85 dX5_limit_15 rfl
theorem i85_18 {d l1 l2 t x h Q} : Ev d 85 18 [some (.int x), l1, l2] t h Q = Ev d 85 19 [some (.int x), l1, l2] (.int x :: t) h Q := en_iload_n mm85 dX5_limit_18 rfl
theorem i85_19 {d l0 l1 l2 x h Q} : Ev d 85 19 [l0, l1, l2] [.int x] h Q = Q (.inl (some (.int x))) h := en_ireturnI mm85 dX5_limit_19 rfl
abbrev em86 : MI := (yX5_thicknessOf, cX5_thicknessOf, 2, some .int, 5, [])
theorem mm86 : mtab[86]? = some em86 := rfl
theorem in86 {d : Nat} {h : AH} {K : AO → AH → Prop} {v0 : Int32} {v1 : Int32} : EvM d 86 [(.int v0), (.int v1)] h K = Ev d 86 0 [some (.int v0), some (.int v1)] [] h K := evm_in mm86 (of_decide_eq_true rfl) rfl
theorem i86_0 {d l0 t x h Q} : Ev d 86 0 [l0, some (.int x)] t h Q = Ev d 86 1 [l0, some (.int x)] (.int x :: t) h Q := en_iload_n mm86 dX5_thicknessOf_0 rfl
theorem i86_1 {d l0 l1 t x h Q} : Ev d 86 1 [l0, l1] (.int x :: t) h Q = if x ≤ 0 then Ev d 86 17 [l0, l1] t h Q else Ev d 86 4 [l0, l1] t h Q := en_if_le mm86 dX5_thicknessOf_1 rfl
theorem i86_4 {d l0 l1 t h Q} : Ev d 86 4 [l0, l1] t h Q = Ev d 86 6 [l0, l1] (.int 40 :: t) h Q := en_bipush mm86 dX5_thicknessOf_4 (by decide)
theorem i86_6 {d l1 t x h Q} : Ev d 86 6 [some (.int x), l1] t h Q = Ev d 86 7 [some (.int x), l1] (.int x :: t) h Q := en_iload_n mm86 dX5_thicknessOf_6 rfl
theorem i86_7 {d l0 l1 t x y h Q} : Ev d 86 7 [l0, l1] (.int y :: .int x :: t) h Q = Ev d 86 8 [l0, l1] (.int (x * y) :: t) h Q := en_imul mm86 dX5_thicknessOf_7
theorem i86_8 {d l0 t x h Q} : Ev d 86 8 [l0, some (.int x)] t h Q = Ev d 86 9 [l0, some (.int x)] (.int x :: t) h Q := en_iload_n mm86 dX5_thicknessOf_8 rfl
theorem i86_9 {d l0 l1 t h Q} : Ev d 86 9 [l0, l1] t h Q = Ev d 86 10 [l0, l1] (.int 2 :: t) h Q := en_iconst mm86 dX5_thicknessOf_9 (by decide)
theorem i86_10 {d l0 l1 t x y h Q} : Ev d 86 10 [l0, l1] (.int y :: .int x :: t) h Q = (¬ y = 0 ∧ Ev d 86 11 [l0, l1] (.int (x / y) :: t) h Q) := en_idiv mm86 dX5_thicknessOf_10
theorem i86_11 {d l0 l1 t x y h Q} : Ev d 86 11 [l0, l1] (.int y :: .int x :: t) h Q = Ev d 86 12 [l0, l1] (.int (x + y) :: t) h Q := en_iadd mm86 dX5_thicknessOf_11
theorem i86_12 {d l0 t x h Q} : Ev d 86 12 [l0, some (.int x)] t h Q = Ev d 86 13 [l0, some (.int x)] (.int x :: t) h Q := en_iload_n mm86 dX5_thicknessOf_12 rfl
theorem i86_13 {d l0 l1 t x y h Q} : Ev d 86 13 [l0, l1] (.int y :: .int x :: t) h Q = (¬ y = 0 ∧ Ev d 86 14 [l0, l1] (.int (x / y) :: t) h Q) := en_idiv mm86 dX5_thicknessOf_13
theorem i86_14 {d l0 l1 t h Q} : Ev d 86 14 [l0, l1] t h Q = Ev d 86 18 [l0, l1] t h Q := en_goto mm86 dX5_thicknessOf_14 rfl
theorem i86_17 {d l0 l1 t h Q} : Ev d 86 17 [l0, l1] t h Q = Ev d 86 18 [l0, l1] (.int 0 :: t) h Q := en_iconst mm86 dX5_thicknessOf_17 (by decide)
theorem i86_18 {d l0 l1 x h Q} : Ev d 86 18 [l0, l1] [.int x] h Q = Q (.inl (some (.int x))) h := en_ireturnI mm86 dX5_thicknessOf_18 rfl
abbrev em87 : MI := (yX6_init, cX6_init, 1, none, 6, [])
theorem mm87 : mtab[87]? = some em87 := rfl
theorem in87 {d : Nat} {h : AH} {K : AO → AH → Prop} {v0 : Nat} : EvM d 87 [(.ref v0)] h K = Ev d 87 0 [some (.ref v0)] [] h K := evm_in mm87 (of_decide_eq_true rfl) rfl
theorem i87_0 {d a t h Q} : Ev d 87 0 [some (.ref a)] t h Q = Ev d 87 1 [some (.ref a)] (.ref a :: t) h Q := en_aload_n mm87 dX6_init_0 rfl
theorem i87_1 {d a l0 h Q} : Ev (d + 1) 87 1 [l0] [.ref a] h Q = Ev (d + 1) 87 4 [l0] [] h Q := en_objinit mm87 dX6_init_1 (by decide +kernel) (of_decide_eq_true rfl)
theorem i87_4 {d a t h Q} : Ev d 87 4 [some (.ref a)] t h Q = Ev d 87 5 [some (.ref a)] (.ref a :: t) h Q := en_aload_n mm87 dX6_init_4 rfl
theorem i87_5 {d l0 t h Q} : Ev d 87 5 [l0] t h Q = Ev d 87 8 [l0] (.int 700 :: t) h Q := en_sipush mm87 dX6_init_5 (by decide)
theorem i87_8 {d l0 t x h Q} : Ev d 87 8 [l0] (.int x :: t) h Q = (¬ (x < 0 ∨ 60000000 < x.toNatClampNeg) ∧ Ev d 87 10 [l0] (.ref (hN h) :: t) (alA h 10 x.toNatClampNeg) Q) := en_newI mm87 dX6_init_8
theorem i87_10 {d a b l0 t h Q} : Ev d 87 10 [l0] (.ref b :: .ref a :: t) h Q = (hk h a = 7 ∧ Ev d 87 13 [l0] t (wF h a 1 (.ref b)) Q) := en_putfield mm87 dX6_init_10 (by decide +kernel) rfl
theorem i87_13 {d a t h Q} : Ev d 87 13 [some (.ref a)] t h Q = Ev d 87 14 [some (.ref a)] (.ref a :: t) h Q := en_aload_n mm87 dX6_init_13 rfl
theorem i87_14 {d l0 t h Q} : Ev d 87 14 [l0] t h Q = Ev d 87 15 [l0] (.int (-1) :: t) h Q := en_iconst mm87 dX6_init_14 (by decide)
theorem i87_15 {d a l0 t x h Q} : Ev d 87 15 [l0] (.int x :: .ref a :: t) h Q = (hk h a = 7 ∧ Ev d 87 18 [l0] t (wF h a 7 (.int x)) Q) := en_putfield mm87 dX6_init_15 (by decide +kernel) rfl
theorem i87_18 {d a t h Q} : Ev d 87 18 [some (.ref a)] t h Q = Ev d 87 19 [some (.ref a)] (.ref a :: t) h Q := en_aload_n mm87 dX6_init_18 rfl
theorem i87_19 {d l0 t h Q} : Ev d 87 19 [l0] t h Q = Ev d 87 22 [l0] (.int 1451 :: t) h Q := en_sipush mm87 dX6_init_19 (by decide)
theorem i87_22 {d l0 t x h Q} : Ev d 87 22 [l0] (.int x :: t) h Q = (¬ (x < 0 ∨ 60000000 < x.toNatClampNeg) ∧ Ev d 87 24 [l0] (.ref (hN h) :: t) (alA h 10 x.toNatClampNeg) Q) := en_newI mm87 dX6_init_22
theorem i87_24 {d a b l0 t h Q} : Ev d 87 24 [l0] (.ref b :: .ref a :: t) h Q = (hk h a = 7 ∧ Ev d 87 27 [l0] t (wF h a 8 (.ref b)) Q) := en_putfield mm87 dX6_init_24 (by decide +kernel) rfl
theorem i87_27 {d a t h Q} : Ev d 87 27 [some (.ref a)] t h Q = Ev d 87 28 [some (.ref a)] (.ref a :: t) h Q := en_aload_n mm87 dX6_init_27 rfl
theorem i87_28 {d l0 t h Q} : Ev d 87 28 [l0] t h Q = Ev d 87 31 [l0] (.int 1451 :: t) h Q := en_sipush mm87 dX6_init_28 (by decide)
theorem i87_31 {d l0 t x h Q} : Ev d 87 31 [l0] (.int x :: t) h Q = (¬ (x < 0 ∨ 60000000 < x.toNatClampNeg) ∧ Ev d 87 33 [l0] (.ref (hN h) :: t) (alA h 10 x.toNatClampNeg) Q) := en_newI mm87 dX6_init_31
theorem i87_33 {d a b l0 t h Q} : Ev d 87 33 [l0] (.ref b :: .ref a :: t) h Q = (hk h a = 7 ∧ Ev d 87 36 [l0] t (wF h a 9 (.ref b)) Q) := en_putfield mm87 dX6_init_33 (by decide +kernel) rfl
theorem i87_36 {d a t h Q} : Ev d 87 36 [some (.ref a)] t h Q = Ev d 87 37 [some (.ref a)] (.ref a :: t) h Q := en_aload_n mm87 dX6_init_36 rfl
theorem i87_37 {d l0 t h Q} : Ev d 87 37 [l0] t h Q = Ev d 87 40 [l0] (.int 1451 :: t) h Q := en_sipush mm87 dX6_init_37 (by decide)
theorem i87_40 {d l0 t x h Q} : Ev d 87 40 [l0] (.int x :: t) h Q = (¬ (x < 0 ∨ 60000000 < x.toNatClampNeg) ∧ Ev d 87 42 [l0] (.ref (hN h) :: t) (alA h 10 x.toNatClampNeg) Q) := en_newI mm87 dX6_init_40
theorem i87_42 {d a b l0 t h Q} : Ev d 87 42 [l0] (.ref b :: .ref a :: t) h Q = (hk h a = 7 ∧ Ev d 87 45 [l0] t (wF h a 10 (.ref b)) Q) := en_putfield mm87 dX6_init_42 (by decide +kernel) rfl
theorem i87_45 {d a t h Q} : Ev d 87 45 [some (.ref a)] t h Q = Ev d 87 46 [some (.ref a)] (.ref a :: t) h Q := en_aload_n mm87 dX6_init_45 rfl
theorem i87_46 {d l0 t h Q} : Ev d 87 46 [l0] t h Q = Ev d 87 48 [l0] (.int 8 :: t) h Q := en_bipush mm87 dX6_init_46 (by decide)
theorem i87_48 {d l0 t h Q} : Ev d 87 48 [l0] t h Q = Ev d 87 51 [l0] (.int 1451 :: t) h Q := en_sipush mm87 dX6_init_48 (by decide)
theorem i87_51 {d l0 t x y h Q} : Ev d 87 51 [l0] (.int x :: .int y :: t) h Q = (¬ (y < 0 ∨ x < 0 ∨ 60000000 < y.toNatClampNeg ∨ 60000000 < x.toNatClampNeg) ∧ Ev d 87 55 [l0] (.ref (hN h) :: t) (alM h y.toNatClampNeg x.toNatClampNeg) Q) := en_newM mm87 dX6_init_51 (by decide +kernel)
theorem i87_55 {d a b l0 t h Q} : Ev d 87 55 [l0] (.ref b :: .ref a :: t) h Q = (hk h a = 7 ∧ Ev d 87 58 [l0] t (wF h a 11 (.ref b)) Q) := en_putfield mm87 dX6_init_55 (by decide +kernel) rfl
theorem i87_58 {d a t h Q} : Ev d 87 58 [some (.ref a)] t h Q = Ev d 87 59 [some (.ref a)] (.ref a :: t) h Q := en_aload_n mm87 dX6_init_58 rfl
theorem i87_59 {d l0 t h Q} : Ev d 87 59 [l0] t h Q = Ev d 87 62 [l0] (.int 1200 :: t) h Q := en_sipush mm87 dX6_init_59 (by decide)
theorem i87_62 {d l0 t x h Q} : Ev d 87 62 [l0] (.int x :: t) h Q = (¬ (x < 0 ∨ 60000000 < x.toNatClampNeg) ∧ Ev d 87 64 [l0] (.ref (hN h) :: t) (alA h 12 x.toNatClampNeg) Q) := en_newJ mm87 dX6_init_62
theorem i87_64 {d a b l0 t h Q} : Ev d 87 64 [l0] (.ref b :: .ref a :: t) h Q = (hk h a = 7 ∧ Ev d 87 67 [l0] t (wF h a 15 (.ref b)) Q) := en_putfield mm87 dX6_init_64 (by decide +kernel) rfl
theorem i87_67 {d l0 h Q} : Ev d 87 67 [l0] [] h Q = Q (.inl none) h := en_return mm87 dX6_init_67 rfl
abbrev em88 : MI := (yX6_thrown, cX6_thrown, 1, some .int, 6, [])
theorem mm88 : mtab[88]? = some em88 := rfl
theorem in88 {d : Nat} {h : AH} {K : AO → AH → Prop} {v0 : Nat} : EvM d 88 [(.ref v0)] h K = Ev d 88 0 [some (.ref v0)] [] h K := evm_in mm88 (of_decide_eq_true rfl) rfl
theorem i88_0 {d a t h Q} : Ev d 88 0 [some (.ref a)] t h Q = Ev d 88 1 [some (.ref a)] (.ref a :: t) h Q := en_aload_n mm88 dX6_thrown_0 rfl
theorem i88_1 {d a l0 t h Q} : Ev d 88 1 [l0] (.ref a :: t) h Q = (hk h a = 7 ∧ Ev d 88 4 [l0] (hF h a 0 :: t) h Q) := en_getfield mm88 dX6_thrown_1 (by decide +kernel)
theorem i88_4 {d l0 x h Q} : Ev d 88 4 [l0] [.int x] h Q = Q (.inl (some (.int x))) h := en_ireturnI mm88 dX6_thrown_4 rfl
abbrev em89 : MI := (yX6_fails, cX6_fails, 3, some .boolean, 6, [])
theorem mm89 : mtab[89]? = some em89 := rfl
theorem in89 {d : Nat} {h : AH} {K : AO → AH → Prop} {v0 : Nat} {v1 : Int32} {v2 : Int32} : EvM d 89 [(.ref v0), (.int v1), (.int v2)] h K = Ev d 89 0 [some (.ref v0), some (.int v1), some (.int v2)] [] h K := evm_in mm89 (of_decide_eq_true rfl) rfl
theorem i89_0 {d l0 l2 t x h Q} : Ev d 89 0 [l0, some (.int x), l2] t h Q = Ev d 89 1 [l0, some (.int x), l2] (.int x :: t) h Q := en_iload_n mm89 dX6_fails_0 rfl
theorem i89_1 {d l0 l1 l2 t x h Q} : Ev d 89 1 [l0, l1, l2] (.int x :: t) h Q = if x = 0 then Ev d 89 16 [l0, l1, l2] t h Q else Ev d 89 4 [l0, l1, l2] t h Q := en_if_eq mm89 dX6_fails_1 rfl
theorem i89_4 {d a l1 l2 t h Q} : Ev d 89 4 [some (.ref a), l1, l2] t h Q = Ev d 89 5 [some (.ref a), l1, l2] (.ref a :: t) h Q := en_aload_n mm89 dX6_fails_4 rfl
theorem i89_5 {d a l0 l1 l2 t h Q} : Ev d 89 5 [l0, l1, l2] (.ref a :: t) h Q = (hk h a = 7 ∧ Ev d 89 8 [l0, l1, l2] (hF h a 0 :: t) h Q) := en_getfield mm89 dX6_fails_5 (by decide +kernel)
theorem i89_8 {d l0 l1 l2 t x h Q} : Ev d 89 8 [l0, l1, l2] (.int x :: t) h Q = if x = 0 then Ev d 89 11 [l0, l1, l2] t h Q else Ev d 89 16 [l0, l1, l2] t h Q := en_if_ne mm89 dX6_fails_8 rfl
theorem i89_11 {d a l1 l2 t h Q} : Ev d 89 11 [some (.ref a), l1, l2] t h Q = Ev d 89 12 [some (.ref a), l1, l2] (.ref a :: t) h Q := en_aload_n mm89 dX6_fails_11 rfl
theorem i89_12 {d l0 l1 t x h Q} : Ev d 89 12 [l0, l1, some (.int x)] t h Q = Ev d 89 13 [l0, l1, some (.int x)] (.int x :: t) h Q := en_iload_n mm89 dX6_fails_12 rfl
theorem i89_13 {d a l0 l1 l2 t x h Q} : Ev d 89 13 [l0, l1, l2] (.int x :: .ref a :: t) h Q = (hk h a = 7 ∧ Ev d 89 16 [l0, l1, l2] t (wF h a 0 (.int x)) Q) := en_putfield mm89 dX6_fails_13 (by decide +kernel) rfl
theorem i89_16 {d a l1 l2 t h Q} : Ev d 89 16 [some (.ref a), l1, l2] t h Q = Ev d 89 17 [some (.ref a), l1, l2] (.ref a :: t) h Q := en_aload_n mm89 dX6_fails_16 rfl
theorem i89_17 {d a l0 l1 l2 t h Q} : Ev d 89 17 [l0, l1, l2] (.ref a :: t) h Q = (hk h a = 7 ∧ Ev d 89 20 [l0, l1, l2] (hF h a 0 :: t) h Q) := en_getfield mm89 dX6_fails_17 (by decide +kernel)
theorem i89_20 {d l0 l1 l2 t x h Q} : Ev d 89 20 [l0, l1, l2] (.int x :: t) h Q = if x = 0 then Ev d 89 27 [l0, l1, l2] t h Q else Ev d 89 23 [l0, l1, l2] t h Q := en_if_eq mm89 dX6_fails_20 rfl
theorem i89_23 {d l0 l1 l2 t h Q} : Ev d 89 23 [l0, l1, l2] t h Q = Ev d 89 24 [l0, l1, l2] (.int 1 :: t) h Q := en_iconst mm89 dX6_fails_23 (by decide)
theorem i89_24 {d l0 l1 l2 t h Q} : Ev d 89 24 [l0, l1, l2] t h Q = Ev d 89 28 [l0, l1, l2] t h Q := en_goto mm89 dX6_fails_24 rfl
theorem i89_27 {d l0 l1 l2 t h Q} : Ev d 89 27 [l0, l1, l2] t h Q = Ev d 89 28 [l0, l1, l2] (.int 0 :: t) h Q := en_iconst mm89 dX6_fails_27 (by decide)
theorem i89_28 {d l0 l1 l2 x h Q} : Ev d 89 28 [l0, l1, l2] [.int x] h Q = (narrow .boolean (.int x) = .int x ∧ Q (.inl (some (.int x))) h) := en_ireturn mm89 dX6_fails_28 rfl
abbrev em90 : MI := (yX6_in, cX6_in, 3, some .boolean, 6, [])
theorem mm90 : mtab[90]? = some em90 := rfl
theorem in90 {d : Nat} {h : AH} {K : AO → AH → Prop} {v0 : Int32} {v1 : Int32} {v2 : Int32} : EvM d 90 [(.int v0), (.int v1), (.int v2)] h K = Ev d 90 0 [some (.int v0), some (.int v1), some (.int v2)] [] h K := evm_in mm90 (of_decide_eq_true rfl) rfl
theorem i90_0 {d l1 l2 t x h Q} : Ev d 90 0 [some (.int x), l1, l2] t h Q = Ev d 90 1 [some (.int x), l1, l2] (.int x :: t) h Q := en_iload_n mm90 dX6_in_0 rfl
theorem i90_1 {d l0 l2 t x h Q} : Ev d 90 1 [l0, some (.int x), l2] t h Q = Ev d 90 2 [l0, some (.int x), l2] (.int x :: t) h Q := en_iload_n mm90 dX6_in_1 rfl
theorem i90_2 {d l0 l1 l2 t x y h Q} : Ev d 90 2 [l0, l1, l2] (.int y :: .int x :: t) h Q = if x < y then Ev d 90 14 [l0, l1, l2] t h Q else Ev d 90 5 [l0, l1, l2] t h Q := en_ic_lt mm90 dX6_in_2 rfl
theorem i90_5 {d l1 l2 t x h Q} : Ev d 90 5 [some (.int x), l1, l2] t h Q = Ev d 90 6 [some (.int x), l1, l2] (.int x :: t) h Q := en_iload_n mm90 dX6_in_5 rfl
theorem i90_6 {d l0 l1 t x h Q} : Ev d 90 6 [l0, l1, some (.int x)] t h Q = Ev d 90 7 [l0, l1, some (.int x)] (.int x :: t) h Q := en_iload_n mm90 dX6_in_6 rfl
theorem i90_7 {d l0 l1 l2 t x y h Q} : Ev d 90 7 [l0, l1, l2] (.int y :: .int x :: t) h Q = if y < x then Ev d 90 14 [l0, l1, l2] t h Q else Ev d 90 10 [l0, l1, l2] t h Q := en_ic_gt mm90 dX6_in_7 rfl
theorem i90_10 {d l0 l1 l2 t h Q} : Ev d 90 10 [l0, l1, l2] t h Q = Ev d 90 11 [l0, l1, l2] (.int 1 :: t) h Q := en_iconst mm90 dX6_in_10 (by decide)
theorem i90_11 {d l0 l1 l2 t h Q} : Ev d 90 11 [l0, l1, l2] t h Q = Ev d 90 15 [l0, l1, l2] t h Q := en_goto mm90 dX6_in_11 rfl
theorem i90_14 {d l0 l1 l2 t h Q} : Ev d 90 14 [l0, l1, l2] t h Q = Ev d 90 15 [l0, l1, l2] (.int 0 :: t) h Q := en_iconst mm90 dX6_in_14 (by decide)
theorem i90_15 {d l0 l1 l2 x h Q} : Ev d 90 15 [l0, l1, l2] [.int x] h Q = (narrow .boolean (.int x) = .int x ∧ Q (.inl (some (.int x))) h) := en_ireturn mm90 dX6_in_15 rfl
abbrev em91 : MI := (yX6_min, cX6_min, 2, some .int, 6, [])
theorem mm91 : mtab[91]? = some em91 := rfl
theorem in91 {d : Nat} {h : AH} {K : AO → AH → Prop} {v0 : Int32} {v1 : Int32} : EvM d 91 [(.int v0), (.int v1)] h K = Ev d 91 0 [some (.int v0), some (.int v1)] [] h K := evm_in mm91 (of_decide_eq_true rfl) rfl
theorem i91_0 {d l1 t x h Q} : Ev d 91 0 [some (.int x), l1] t h Q = Ev d 91 1 [some (.int x), l1] (.int x :: t) h Q := en_iload_n mm91 dX6_min_0 rfl
theorem i91_1 {d l0 t x h Q} : Ev d 91 1 [l0, some (.int x)] t h Q = Ev d 91 2 [l0, some (.int x)] (.int x :: t) h Q := en_iload_n mm91 dX6_min_1 rfl
theorem i91_2 {d l0 l1 t x y h Q} : Ev d 91 2 [l0, l1] (.int y :: .int x :: t) h Q = if y ≤ x then Ev d 91 9 [l0, l1] t h Q else Ev d 91 5 [l0, l1] t h Q := en_ic_ge mm91 dX6_min_2 rfl
theorem i91_5 {d l1 t x h Q} : Ev d 91 5 [some (.int x), l1] t h Q = Ev d 91 6 [some (.int x), l1] (.int x :: t) h Q := en_iload_n mm91 dX6_min_5 rfl
theorem i91_6 {d l0 l1 t h Q} : Ev d 91 6 [l0, l1] t h Q = Ev d 91 10 [l0, l1] t h Q := en_goto mm91 dX6_min_6 rfl
theorem i91_9 {d l0 t x h Q} : Ev d 91 9 [l0, some (.int x)] t h Q = Ev d 91 10 [l0, some (.int x)] (.int x :: t) h Q := en_iload_n mm91 dX6_min_9 rfl
theorem i91_10 {d l0 l1 x h Q} : Ev d 91 10 [l0, l1] [.int x] h Q = Q (.inl (some (.int x))) h := en_ireturnI mm91 dX6_min_10 rfl
abbrev em92 : MI := (yX6_max, cX6_max, 2, some .int, 6, [])
theorem mm92 : mtab[92]? = some em92 := rfl
theorem in92 {d : Nat} {h : AH} {K : AO → AH → Prop} {v0 : Int32} {v1 : Int32} : EvM d 92 [(.int v0), (.int v1)] h K = Ev d 92 0 [some (.int v0), some (.int v1)] [] h K := evm_in mm92 (of_decide_eq_true rfl) rfl
theorem i92_0 {d l1 t x h Q} : Ev d 92 0 [some (.int x), l1] t h Q = Ev d 92 1 [some (.int x), l1] (.int x :: t) h Q := en_iload_n mm92 dX6_max_0 rfl
theorem i92_1 {d l0 t x h Q} : Ev d 92 1 [l0, some (.int x)] t h Q = Ev d 92 2 [l0, some (.int x)] (.int x :: t) h Q := en_iload_n mm92 dX6_max_1 rfl
theorem i92_2 {d l0 l1 t x y h Q} : Ev d 92 2 [l0, l1] (.int y :: .int x :: t) h Q = if x ≤ y then Ev d 92 9 [l0, l1] t h Q else Ev d 92 5 [l0, l1] t h Q := en_ic_le mm92 dX6_max_2 rfl
theorem i92_5 {d l1 t x h Q} : Ev d 92 5 [some (.int x), l1] t h Q = Ev d 92 6 [some (.int x), l1] (.int x :: t) h Q := en_iload_n mm92 dX6_max_5 rfl
theorem i92_6 {d l0 l1 t h Q} : Ev d 92 6 [l0, l1] t h Q = Ev d 92 10 [l0, l1] t h Q := en_goto mm92 dX6_max_6 rfl
theorem i92_9 {d l0 t x h Q} : Ev d 92 9 [l0, some (.int x)] t h Q = Ev d 92 10 [l0, some (.int x)] (.int x :: t) h Q := en_iload_n mm92 dX6_max_9 rfl
theorem i92_10 {d l0 l1 x h Q} : Ev d 92 10 [l0, l1] [.int x] h Q = Q (.inl (some (.int x))) h := en_ireturnI mm92 dX6_max_10 rfl
abbrev em93 : MI := (yX6_copy, cX6_copy, 3, none, 6, [])
theorem mm93 : mtab[93]? = some em93 := rfl
theorem in93 {d : Nat} {h : AH} {K : AO → AH → Prop} {v0 : Nat} {v1 : Nat} : EvM d 93 [(.ref v0), (.ref v1)] h K = Ev d 93 0 [some (.ref v0), some (.ref v1), none] [] h K := evm_in mm93 (of_decide_eq_true rfl) rfl
theorem i93_0 {d l0 l1 l2 t h Q} : Ev d 93 0 [l0, l1, l2] t h Q = Ev d 93 1 [l0, l1, l2] (.int 0 :: t) h Q := en_iconst mm93 dX6_copy_0 (by decide)
theorem i93_1 {d l0 l1 l2 t x h Q} : Ev d 93 1 [l0, l1, l2] (.int x :: t) h Q = Ev d 93 2 [l0, nl l1, some (.int x)] t h Q := en_istore_n mm93 dX6_copy_1 (of_decide_eq_true rfl) rfl
theorem i93_2 {d l0 l1 t x h Q} : Ev d 93 2 [l0, l1, some (.int x)] t h Q = Ev d 93 3 [l0, l1, some (.int x)] (.int x :: t) h Q := en_iload_n mm93 dX6_copy_2 rfl
theorem i93_3 {d l0 l1 l2 t h Q} : Ev d 93 3 [l0, l1, l2] t h Q = Ev d 93 6 [l0, l1, l2] (.int 1451 :: t) h Q := en_sipush mm93 dX6_copy_3 (by decide)
theorem i93_6 {d l0 l1 l2 t x y h Q} : Ev d 93 6 [l0, l1, l2] (.int y :: .int x :: t) h Q = if y ≤ x then Ev d 93 21 [l0, l1, l2] t h Q else Ev d 93 9 [l0, l1, l2] t h Q := en_ic_ge mm93 dX6_copy_6 rfl
theorem i93_9 {d a l0 l2 t h Q} : Ev d 93 9 [l0, some (.ref a), l2] t h Q = Ev d 93 10 [l0, some (.ref a), l2] (.ref a :: t) h Q := en_aload_n mm93 dX6_copy_9 rfl
theorem i93_10 {d l0 l1 t x h Q} : Ev d 93 10 [l0, l1, some (.int x)] t h Q = Ev d 93 11 [l0, l1, some (.int x)] (.int x :: t) h Q := en_iload_n mm93 dX6_copy_10 rfl
theorem i93_11 {d a l1 l2 t h Q} : Ev d 93 11 [some (.ref a), l1, l2] t h Q = Ev d 93 12 [some (.ref a), l1, l2] (.ref a :: t) h Q := en_aload_n mm93 dX6_copy_11 rfl
theorem i93_12 {d l0 l1 t x h Q} : Ev d 93 12 [l0, l1, some (.int x)] t h Q = Ev d 93 13 [l0, l1, some (.int x)] (.int x :: t) h Q := en_iload_n mm93 dX6_copy_12 rfl
theorem i93_13 {d a j l0 l1 l2 t h Q} : Ev d 93 13 [l0, l1, l2] (.int j :: .ref a :: t) h Q = (hk h a = 10 ∧ inb j (hl h a) ∧ Ev d 93 14 [l0, l1, l2] (.int (hA h a j.toNatClampNeg) :: t) h Q) := en_iaload mm93 dX6_copy_13
theorem i93_14 {d a j l0 l1 l2 t x h Q} : Ev d 93 14 [l0, l1, l2] (.int x :: .int j :: .ref a :: t) h Q = (hk h a = 10 ∧ inb j (hl h a) ∧ Ev d 93 15 [l0, l1, l2] t (wA h a (upd (hA h a) j.toNatClampNeg x)) Q) := en_iastore mm93 dX6_copy_14
theorem i93_15 {d l0 l1 t x h Q} : Ev d 93 15 [l0, l1, some (.int x)] t h Q = Ev d 93 18 [l0, nl l1, some (.int (x + 1))] t h Q := en_iinc mm93 dX6_copy_15 rfl (by decide) rfl
theorem i93_18 {d l0 l1 l2 t h Q} : Ev d 93 18 [l0, l1, l2] t h Q = Ev d 93 2 [l0, l1, l2] t h Q := en_goto mm93 dX6_copy_18 rfl
theorem i93_21 {d l0 l1 l2 h Q} : Ev d 93 21 [l0, l1, l2] [] h Q = Q (.inl none) h := en_return mm93 dX6_copy_21 rfl
abbrev em94 : MI := (yX6_zoneAt, cX6_zoneAt, 1, some .int, 6, [])
theorem mm94 : mtab[94]? = some em94 := rfl
theorem in94 {d : Nat} {h : AH} {K : AO → AH → Prop} {v0 : Int32} : EvM d 94 [(.int v0)] h K = Ev d 94 0 [some (.int v0)] [] h K := evm_in mm94 (of_decide_eq_true rfl) rfl
theorem i94_0 {d l0 t h Q} : Ev d 94 0 [l0] t h Q = Ev d 94 2 [l0] (.int 9 :: t) h Q := en_bipush mm94 dX6_zoneAt_0 (by decide)
theorem i94_2 {d l0 t h Q} : Ev d 94 2 [l0] t h Q = Ev d 94 4 [l0] (.int 7 :: t) h Q := en_bipush mm94 dX6_zoneAt_2 (by decide)
theorem i94_4 {d t x h Q} : Ev d 94 4 [some (.int x)] t h Q = Ev d 94 5 [some (.int x)] (.int x :: t) h Q := en_iload_n mm94 dX6_zoneAt_4 rfl
theorem i94_5 {d l0 t x y h Q} : Ev d 94 5 [l0] (.int y :: .int x :: t) h Q = Ev d 94 6 [l0] (.int (x * y) :: t) h Q := en_imul mm94 dX6_zoneAt_5
theorem i94_6 {d l0 t x y h Q} : Ev d 94 6 [l0] (.int y :: .int x :: t) h Q = Ev d 94 7 [l0] (.int (x + y) :: t) h Q := en_iadd mm94 dX6_zoneAt_6
theorem i94_7 {d l0 x h Q} : Ev d 94 7 [l0] [.int x] h Q = Q (.inl (some (.int x))) h := en_ireturnI mm94 dX6_zoneAt_7 rfl
abbrev em95 : MI := (yX6_sheetAt, cX6_sheetAt, 1, some .int, 6, [])
theorem mm95 : mtab[95]? = some em95 := rfl
theorem in95 {d : Nat} {h : AH} {K : AO → AH → Prop} {v0 : Int32} : EvM d 95 [(.int v0)] h K = Ev d 95 0 [some (.int v0)] [] h K := evm_in mm95 (of_decide_eq_true rfl) rfl
theorem i95_0 {d l0 t h Q} : Ev d 95 0 [l0] t h Q = Ev d 95 2 [l0] (.int 51 :: t) h Q := en_bipush mm95 dX6_sheetAt_0 (by decide)
theorem i95_2 {d l0 t h Q} : Ev d 95 2 [l0] t h Q = Ev d 95 3 [l0] (.int 3 :: t) h Q := en_iconst mm95 dX6_sheetAt_2 (by decide)
theorem i95_3 {d t x h Q} : Ev d 95 3 [some (.int x)] t h Q = Ev d 95 4 [some (.int x)] (.int x :: t) h Q := en_iload_n mm95 dX6_sheetAt_3 rfl
theorem i95_4 {d l0 t x y h Q} : Ev d 95 4 [l0] (.int y :: .int x :: t) h Q = Ev d 95 5 [l0] (.int (x * y) :: t) h Q := en_imul mm95 dX6_sheetAt_4
theorem i95_5 {d l0 t x y h Q} : Ev d 95 5 [l0] (.int y :: .int x :: t) h Q = Ev d 95 6 [l0] (.int (x + y) :: t) h Q := en_iadd mm95 dX6_sheetAt_5
theorem i95_6 {d l0 x h Q} : Ev d 95 6 [l0] [.int x] h Q = Q (.inl (some (.int x))) h := en_ireturnI mm95 dX6_sheetAt_6 rfl
abbrev em96 : MI := (yX6_kindAt, cX6_kindAt, 1, some .int, 6, [])
theorem mm96 : mtab[96]? = some em96 := rfl
theorem in96 {d : Nat} {h : AH} {K : AO → AH → Prop} {v0 : Int32} : EvM d 96 [(.int v0)] h K = Ev d 96 0 [some (.int v0)] [] h K := evm_in mm96 (of_decide_eq_true rfl) rfl
theorem i96_0 {d l0 t h Q} : Ev d 96 0 [l0] t h Q = Ev d 96 2 [l0] (.int 111 :: t) h Q := en_bipush mm96 dX6_kindAt_0 (by decide)
theorem i96_2 {d l0 t h Q} : Ev d 96 2 [l0] t h Q = Ev d 96 4 [l0] (.int 7 :: t) h Q := en_bipush mm96 dX6_kindAt_2 (by decide)
theorem i96_4 {d t x h Q} : Ev d 96 4 [some (.int x)] t h Q = Ev d 96 5 [some (.int x)] (.int x :: t) h Q := en_iload_n mm96 dX6_kindAt_4 rfl
theorem i96_5 {d l0 t x y h Q} : Ev d 96 5 [l0] (.int y :: .int x :: t) h Q = Ev d 96 6 [l0] (.int (x * y) :: t) h Q := en_imul mm96 dX6_kindAt_5
theorem i96_6 {d l0 t x y h Q} : Ev d 96 6 [l0] (.int y :: .int x :: t) h Q = Ev d 96 7 [l0] (.int (x + y) :: t) h Q := en_iadd mm96 dX6_kindAt_6
theorem i96_7 {d l0 x h Q} : Ev d 96 7 [l0] [.int x] h Q = Q (.inl (some (.int x))) h := en_ireturnI mm96 dX6_kindAt_7 rfl
abbrev em97 : MI := (yX6_append, cX6_append, 8, some .int, 6, [])
theorem mm97 : mtab[97]? = some em97 := rfl
theorem in97 {d : Nat} {h : AH} {K : AO → AH → Prop} {v0 : Nat} {v1 : Int32} {v2 : Int32} {v3 : Int32} {v4 : Int32} {v5 : Int32} : EvM d 97 [(.ref v0), (.int v1), (.int v2), (.int v3), (.int v4), (.int v5)] h K = Ev d 97 0 [some (.ref v0), some (.int v1), some (.int v2), some (.int v3), some (.int v4), some (.int v5), none, none] [] h K := evm_in mm97 (of_decide_eq_true rfl) rfl
theorem i97_0 {d a l1 l2 l3 l4 l5 l6 l7 t h Q} : Ev d 97 0 [some (.ref a), l1, l2, l3, l4, l5, l6, l7] t h Q = Ev d 97 1 [some (.ref a), l1, l2, l3, l4, l5, l6, l7] (.ref a :: t) h Q := en_aload_n mm97 dX6_append_0 rfl
theorem i97_1 {d l0 l1 l2 l3 l4 l5 l6 l7 t h Q} : Ev d 97 1 [l0, l1, l2, l3, l4, l5, l6, l7] t h Q = Ev d 97 2 [l0, l1, l2, l3, l4, l5, l6, l7] (.int 0 :: t) h Q := en_iconst mm97 dX6_append_1 (by decide)
theorem i97_2 {d a l0 l1 l2 l3 l4 l5 l6 l7 t x h Q} : Ev d 97 2 [l0, l1, l2, l3, l4, l5, l6, l7] (.int x :: .ref a :: t) h Q = (hk h a = 7 ∧ Ev d 97 5 [l0, l1, l2, l3, l4, l5, l6, l7] t (wF h a 0 (.int x)) Q) := en_putfield mm97 dX6_append_2 (by decide +kernel) rfl
theorem i97_5 {d a l1 l2 l3 l4 l5 l6 l7 t h Q} : Ev d 97 5 [some (.ref a), l1, l2, l3, l4, l5, l6, l7] t h Q = Ev d 97 6 [some (.ref a), l1, l2, l3, l4, l5, l6, l7] (.ref a :: t) h Q := en_aload_n mm97 dX6_append_5 rfl
theorem i97_6 {d a l0 l1 l2 l3 l4 l5 l6 l7 t h Q} : Ev d 97 6 [l0, l1, l2, l3, l4, l5, l6, l7] (.ref a :: t) h Q = (hk h a = 7 ∧ Ev d 97 9 [l0, l1, l2, l3, l4, l5, l6, l7] (hF h a 2 :: t) h Q) := en_getfield mm97 dX6_append_6 (by decide +kernel)
theorem i97_9 {d l0 l1 l2 l3 l4 l5 l6 l7 t h Q} : Ev d 97 9 [l0, l1, l2, l3, l4, l5, l6, l7] t h Q = Ev d 97 11 [l0, l1, l2, l3, l4, l5, l6, l7] (.int 20 :: t) h Q := en_bipush mm97 dX6_append_9 (by decide)
theorem i97_11 {d l0 l1 l2 l3 l4 l5 l6 l7 t x y h Q} : Ev d 97 11 [l0, l1, l2, l3, l4, l5, l6, l7] (.int y :: .int x :: t) h Q = Ev d 97 12 [l0, l1, l2, l3, l4, l5, l6, l7] (.int (x + y) :: t) h Q := en_iadd mm97 dX6_append_11
theorem i97_12 {d l0 l1 l2 l3 l4 l5 l6 l7 t h Q} : Ev d 97 12 [l0, l1, l2, l3, l4, l5, l6, l7] t h Q = Ev d 97 15 [l0, l1, l2, l3, l4, l5, l6, l7] (.int 700 :: t) h Q := en_sipush mm97 dX6_append_12 (by decide)
theorem i97_15 {d l0 l1 l2 l3 l4 l5 l6 l7 t x y h Q} : Ev d 97 15 [l0, l1, l2, l3, l4, l5, l6, l7] (.int y :: .int x :: t) h Q = if x ≤ y then Ev d 97 20 [l0, l1, l2, l3, l4, l5, l6, l7] t h Q else Ev d 97 18 [l0, l1, l2, l3, l4, l5, l6, l7] t h Q := en_ic_le mm97 dX6_append_15 rfl
theorem i97_18 {d l0 l1 l2 l3 l4 l5 l6 l7 t h Q} : Ev d 97 18 [l0, l1, l2, l3, l4, l5, l6, l7] t h Q = Ev d 97 19 [l0, l1, l2, l3, l4, l5, l6, l7] (.int (-1) :: t) h Q := en_iconst mm97 dX6_append_18 (by decide)
theorem i97_19 {d l0 l1 l2 l3 l4 l5 l6 l7 x h Q} : Ev d 97 19 [l0, l1, l2, l3, l4, l5, l6, l7] [.int x] h Q = Q (.inl (some (.int x))) h := en_ireturnI mm97 dX6_append_19 rfl
theorem i97_20 {d l0 l1 l2 l3 l4 l5 l6 l7 t h Q} : Ev d 97 20 [l0, l1, l2, l3, l4, l5, l6, l7] t h Q = Ev d 97 21 [l0, l1, l2, l3, l4, l5, l6, l7] (.int 0 :: t) h Q := en_iconst mm97 dX6_append_20 (by decide)
theorem i97_21 {d l0 l1 l2 l3 l4 l5 l6 l7 t x h Q} : Ev d 97 21 [l0, l1, l2, l3, l4, l5, l6, l7] (.int x :: t) h Q = Ev d 97 23 [l0, l1, l2, l3, l4, nl l5, some (.int x), l7] t h Q := en_istore mm97 dX6_append_21 (of_decide_eq_true rfl) rfl
theorem i97_23 {d l0 l1 l2 l3 l4 l5 l7 t x h Q} : Ev d 97 23 [l0, l1, l2, l3, l4, l5, some (.int x), l7] t h Q = Ev d 97 25 [l0, l1, l2, l3, l4, l5, some (.int x), l7] (.int x :: t) h Q := en_iload mm97 dX6_append_23 rfl
theorem i97_25 {d l0 l1 l2 l3 l4 l5 l6 l7 t h Q} : Ev d 97 25 [l0, l1, l2, l3, l4, l5, l6, l7] t h Q = Ev d 97 27 [l0, l1, l2, l3, l4, l5, l6, l7] (.int 20 :: t) h Q := en_bipush mm97 dX6_append_25 (by decide)
theorem i97_27 {d l0 l1 l2 l3 l4 l5 l6 l7 t x y h Q} : Ev d 97 27 [l0, l1, l2, l3, l4, l5, l6, l7] (.int y :: .int x :: t) h Q = if y ≤ x then Ev d 97 120 [l0, l1, l2, l3, l4, l5, l6, l7] t h Q else Ev d 97 30 [l0, l1, l2, l3, l4, l5, l6, l7] t h Q := en_ic_ge mm97 dX6_append_27 rfl
theorem i97_30 {d l0 l1 l2 l3 l4 l5 l7 t x h Q} : Ev d 97 30 [l0, l1, l2, l3, l4, l5, some (.int x), l7] t h Q = Ev d 97 32 [l0, l1, l2, l3, l4, l5, some (.int x), l7] (.int x :: t) h Q := en_iload mm97 dX6_append_30 rfl
theorem i97_32 {d l0 l1 l2 l3 l4 l5 l6 l7 t h Q} : Ev d 97 32 [l0, l1, l2, l3, l4, l5, l6, l7] t h Q = Ev d 97 33 [l0, l1, l2, l3, l4, l5, l6, l7] (.int 4 :: t) h Q := en_iconst mm97 dX6_append_32 (by decide)
theorem i97_33 {d l0 l1 l2 l3 l4 l5 l6 l7 t x y h Q} : Ev d 97 33 [l0, l1, l2, l3, l4, l5, l6, l7] (.int y :: .int x :: t) h Q = if y ≤ x then Ev d 97 40 [l0, l1, l2, l3, l4, l5, l6, l7] t h Q else Ev d 97 36 [l0, l1, l2, l3, l4, l5, l6, l7] t h Q := en_ic_ge mm97 dX6_append_33 rfl
theorem i97_36 {d l0 l2 l3 l4 l5 l6 l7 t x h Q} : Ev d 97 36 [l0, some (.int x), l2, l3, l4, l5, l6, l7] t h Q = Ev d 97 37 [l0, some (.int x), l2, l3, l4, l5, l6, l7] (.int x :: t) h Q := en_iload_n mm97 dX6_append_36 rfl
theorem i97_37 {d l0 l1 l2 l3 l4 l5 l6 l7 t h Q} : Ev d 97 37 [l0, l1, l2, l3, l4, l5, l6, l7] t h Q = Ev d 97 76 [l0, l1, l2, l3, l4, l5, l6, l7] t h Q := en_goto mm97 dX6_append_37 rfl
theorem i97_40 {d l0 l1 l2 l3 l4 l5 l7 t x h Q} : Ev d 97 40 [l0, l1, l2, l3, l4, l5, some (.int x), l7] t h Q = Ev d 97 42 [l0, l1, l2, l3, l4, l5, some (.int x), l7] (.int x :: t) h Q := en_iload mm97 dX6_append_40 rfl
theorem i97_42 {d l0 l1 l2 l3 l4 l5 l6 l7 t h Q} : Ev d 97 42 [l0, l1, l2, l3, l4, l5, l6, l7] t h Q = Ev d 97 44 [l0, l1, l2, l3, l4, l5, l6, l7] (.int 8 :: t) h Q := en_bipush mm97 dX6_append_42 (by decide)
theorem i97_44 {d l0 l1 l2 l3 l4 l5 l6 l7 t x y h Q} : Ev d 97 44 [l0, l1, l2, l3, l4, l5, l6, l7] (.int y :: .int x :: t) h Q = if y ≤ x then Ev d 97 51 [l0, l1, l2, l3, l4, l5, l6, l7] t h Q else Ev d 97 47 [l0, l1, l2, l3, l4, l5, l6, l7] t h Q := en_ic_ge mm97 dX6_append_44 rfl
theorem i97_47 {d l0 l1 l3 l4 l5 l6 l7 t x h Q} : Ev d 97 47 [l0, l1, some (.int x), l3, l4, l5, l6, l7] t h Q = Ev d 97 48 [l0, l1, some (.int x), l3, l4, l5, l6, l7] (.int x :: t) h Q := en_iload_n mm97 dX6_append_47 rfl
theorem i97_48 {d l0 l1 l2 l3 l4 l5 l6 l7 t h Q} : Ev d 97 48 [l0, l1, l2, l3, l4, l5, l6, l7] t h Q = Ev d 97 76 [l0, l1, l2, l3, l4, l5, l6, l7] t h Q := en_goto mm97 dX6_append_48 rfl
theorem i97_51 {d l0 l1 l2 l3 l4 l5 l7 t x h Q} : Ev d 97 51 [l0, l1, l2, l3, l4, l5, some (.int x), l7] t h Q = Ev d 97 53 [l0, l1, l2, l3, l4, l5, some (.int x), l7] (.int x :: t) h Q := en_iload mm97 dX6_append_51 rfl
theorem i97_53 {d l0 l1 l2 l3 l4 l5 l6 l7 t h Q} : Ev d 97 53 [l0, l1, l2, l3, l4, l5, l6, l7] t h Q = Ev d 97 55 [l0, l1, l2, l3, l4, l5, l6, l7] (.int 12 :: t) h Q := en_bipush mm97 dX6_append_53 (by decide)
theorem i97_55 {d l0 l1 l2 l3 l4 l5 l6 l7 t x y h Q} : Ev d 97 55 [l0, l1, l2, l3, l4, l5, l6, l7] (.int y :: .int x :: t) h Q = if y ≤ x then Ev d 97 62 [l0, l1, l2, l3, l4, l5, l6, l7] t h Q else Ev d 97 58 [l0, l1, l2, l3, l4, l5, l6, l7] t h Q := en_ic_ge mm97 dX6_append_55 rfl
theorem i97_58 {d l0 l1 l2 l4 l5 l6 l7 t x h Q} : Ev d 97 58 [l0, l1, l2, some (.int x), l4, l5, l6, l7] t h Q = Ev d 97 59 [l0, l1, l2, some (.int x), l4, l5, l6, l7] (.int x :: t) h Q := en_iload_n mm97 dX6_append_58 rfl
theorem i97_59 {d l0 l1 l2 l3 l4 l5 l6 l7 t h Q} : Ev d 97 59 [l0, l1, l2, l3, l4, l5, l6, l7] t h Q = Ev d 97 76 [l0, l1, l2, l3, l4, l5, l6, l7] t h Q := en_goto mm97 dX6_append_59 rfl
theorem i97_62 {d l0 l1 l2 l3 l4 l5 l7 t x h Q} : Ev d 97 62 [l0, l1, l2, l3, l4, l5, some (.int x), l7] t h Q = Ev d 97 64 [l0, l1, l2, l3, l4, l5, some (.int x), l7] (.int x :: t) h Q := en_iload mm97 dX6_append_62 rfl
theorem i97_64 {d l0 l1 l2 l3 l4 l5 l6 l7 t h Q} : Ev d 97 64 [l0, l1, l2, l3, l4, l5, l6, l7] t h Q = Ev d 97 66 [l0, l1, l2, l3, l4, l5, l6, l7] (.int 16 :: t) h Q := en_bipush mm97 dX6_append_64 (by decide)
theorem i97_66 {d l0 l1 l2 l3 l4 l5 l6 l7 t x y h Q} : Ev d 97 66 [l0, l1, l2, l3, l4, l5, l6, l7] (.int y :: .int x :: t) h Q = if y ≤ x then Ev d 97 74 [l0, l1, l2, l3, l4, l5, l6, l7] t h Q else Ev d 97 69 [l0, l1, l2, l3, l4, l5, l6, l7] t h Q := en_ic_ge mm97 dX6_append_66 rfl
theorem i97_69 {d l0 l1 l2 l3 l5 l6 l7 t x h Q} : Ev d 97 69 [l0, l1, l2, l3, some (.int x), l5, l6, l7] t h Q = Ev d 97 71 [l0, l1, l2, l3, some (.int x), l5, l6, l7] (.int x :: t) h Q := en_iload mm97 dX6_append_69 rfl
theorem i97_71 {d l0 l1 l2 l3 l4 l5 l6 l7 t h Q} : Ev d 97 71 [l0, l1, l2, l3, l4, l5, l6, l7] t h Q = Ev d 97 76 [l0, l1, l2, l3, l4, l5, l6, l7] t h Q := en_goto mm97 dX6_append_71 rfl
theorem i97_74 {d l0 l1 l2 l3 l4 l6 l7 t x h Q} : Ev d 97 74 [l0, l1, l2, l3, l4, some (.int x), l6, l7] t h Q = Ev d 97 76 [l0, l1, l2, l3, l4, some (.int x), l6, l7] (.int x :: t) h Q := en_iload mm97 dX6_append_74 rfl
theorem i97_76 {d l0 l1 l2 l3 l4 l5 l6 l7 t x h Q} : Ev d 97 76 [l0, l1, l2, l3, l4, l5, l6, l7] (.int x :: t) h Q = Ev d 97 78 [l0, l1, l2, l3, l4, l5, nl l6, some (.int x)] t h Q := en_istore mm97 dX6_append_76 (of_decide_eq_true rfl) rfl
theorem i97_78 {d a l1 l2 l3 l4 l5 l6 l7 t h Q} : Ev d 97 78 [some (.ref a), l1, l2, l3, l4, l5, l6, l7] t h Q = Ev d 97 79 [some (.ref a), l1, l2, l3, l4, l5, l6, l7] (.ref a :: t) h Q := en_aload_n mm97 dX6_append_78 rfl
theorem i97_79 {d a l0 l1 l2 l3 l4 l5 l6 l7 t h Q} : Ev d 97 79 [l0, l1, l2, l3, l4, l5, l6, l7] (.ref a :: t) h Q = (hk h a = 7 ∧ Ev d 97 82 [l0, l1, l2, l3, l4, l5, l6, l7] (hF h a 1 :: t) h Q) := en_getfield mm97 dX6_append_79 (by decide +kernel)
theorem i97_82 {d a l1 l2 l3 l4 l5 l6 l7 t h Q} : Ev d 97 82 [some (.ref a), l1, l2, l3, l4, l5, l6, l7] t h Q = Ev d 97 83 [some (.ref a), l1, l2, l3, l4, l5, l6, l7] (.ref a :: t) h Q := en_aload_n mm97 dX6_append_82 rfl
theorem i97_83 {d a l0 l1 l2 l3 l4 l5 l6 l7 t h Q} : Ev d 97 83 [l0, l1, l2, l3, l4, l5, l6, l7] (.ref a :: t) h Q = (hk h a = 7 ∧ Ev d 97 86 [l0, l1, l2, l3, l4, l5, l6, l7] (hF h a 2 :: t) h Q) := en_getfield mm97 dX6_append_83 (by decide +kernel)
theorem i97_86 {d l0 l1 l2 l3 l4 l5 l6 t x h Q} : Ev d 97 86 [l0, l1, l2, l3, l4, l5, l6, some (.int x)] t h Q = Ev d 97 88 [l0, l1, l2, l3, l4, l5, l6, some (.int x)] (.int x :: t) h Q := en_iload mm97 dX6_append_86 rfl
theorem i97_88 {d l0 l1 l2 l3 l4 l5 l6 l7 t h Q} : Ev d 97 88 [l0, l1, l2, l3, l4, l5, l6, l7] t h Q = Ev d 97 90 [l0, l1, l2, l3, l4, l5, l6, l7] (.int 24 :: t) h Q := en_bipush mm97 dX6_append_88 (by decide)
theorem i97_90 {d l0 l1 l2 l3 l4 l5 l6 l7 t h Q} : Ev d 97 90 [l0, l1, l2, l3, l4, l5, l6, l7] t h Q = Ev d 97 92 [l0, l1, l2, l3, l4, l5, l6, l7] (.int 8 :: t) h Q := en_bipush mm97 dX6_append_90 (by decide)
theorem i97_92 {d l0 l1 l2 l3 l4 l5 l7 t x h Q} : Ev d 97 92 [l0, l1, l2, l3, l4, l5, some (.int x), l7] t h Q = Ev d 97 94 [l0, l1, l2, l3, l4, l5, some (.int x), l7] (.int x :: t) h Q := en_iload mm97 dX6_append_92 rfl
theorem i97_94 {d l0 l1 l2 l3 l4 l5 l6 l7 t h Q} : Ev d 97 94 [l0, l1, l2, l3, l4, l5, l6, l7] t h Q = Ev d 97 95 [l0, l1, l2, l3, l4, l5, l6, l7] (.int 4 :: t) h Q := en_iconst mm97 dX6_append_94 (by decide)
theorem i97_95 {d l0 l1 l2 l3 l4 l5 l6 l7 t x y h Q} : Ev d 97 95 [l0, l1, l2, l3, l4, l5, l6, l7] (.int y :: .int x :: t) h Q = (¬ y = 0 ∧ Ev d 97 96 [l0, l1, l2, l3, l4, l5, l6, l7] (.int (x - x / y * y) :: t) h Q) := en_irem mm97 dX6_append_95
theorem i97_96 {d l0 l1 l2 l3 l4 l5 l6 l7 t x y h Q} : Ev d 97 96 [l0, l1, l2, l3, l4, l5, l6, l7] (.int y :: .int x :: t) h Q = Ev d 97 97 [l0, l1, l2, l3, l4, l5, l6, l7] (.int (x * y) :: t) h Q := en_imul mm97 dX6_append_96
theorem i97_97 {d l0 l1 l2 l3 l4 l5 l6 l7 t x y h Q} : Ev d 97 97 [l0, l1, l2, l3, l4, l5, l6, l7] (.int y :: .int x :: t) h Q = Ev d 97 98 [l0, l1, l2, l3, l4, l5, l6, l7] (.int (x - y) :: t) h Q := en_isub mm97 dX6_append_97
theorem i97_98 {d l0 l1 l2 l3 l4 l5 l6 l7 t x y h Q} : Ev d 97 98 [l0, l1, l2, l3, l4, l5, l6, l7] (.int y :: .int x :: t) h Q = Ev d 97 99 [l0, l1, l2, l3, l4, l5, l6, l7] (.int (x >>> (y &&& 31)) :: t) h Q := en_ishr mm97 dX6_append_98
theorem i97_99 {d l0 l1 l2 l3 l4 l5 l6 l7 t h Q} : Ev d 97 99 [l0, l1, l2, l3, l4, l5, l6, l7] t h Q = Ev d 97 102 [l0, l1, l2, l3, l4, l5, l6, l7] (.int 255 :: t) h Q := en_sipush mm97 dX6_append_99 (by decide)
theorem i97_102 {d l0 l1 l2 l3 l4 l5 l6 l7 t x y h Q} : Ev d 97 102 [l0, l1, l2, l3, l4, l5, l6, l7] (.int y :: .int x :: t) h Q = Ev d 97 103 [l0, l1, l2, l3, l4, l5, l6, l7] (.int (x &&& y) :: t) h Q := en_iand mm97 dX6_append_102
theorem i97_103 {d a j l0 l1 l2 l3 l4 l5 l6 l7 t x h Q} : Ev d 97 103 [l0, l1, l2, l3, l4, l5, l6, l7] (.int x :: .int j :: .ref a :: t) h Q = (hk h a = 10 ∧ inb j (hl h a) ∧ Ev d 97 104 [l0, l1, l2, l3, l4, l5, l6, l7] t (wA h a (upd (hA h a) j.toNatClampNeg x)) Q) := en_iastore mm97 dX6_append_103
theorem i97_104 {d a l1 l2 l3 l4 l5 l6 l7 t h Q} : Ev d 97 104 [some (.ref a), l1, l2, l3, l4, l5, l6, l7] t h Q = Ev d 97 105 [some (.ref a), l1, l2, l3, l4, l5, l6, l7] (.ref a :: t) h Q := en_aload_n mm97 dX6_append_104 rfl
theorem i97_105 {d a l0 l1 l2 l3 l4 l5 l6 l7 t h Q} : Ev d 97 105 [l0, l1, l2, l3, l4, l5, l6, l7] (.ref a :: t) h Q = Ev d 97 106 [l0, l1, l2, l3, l4, l5, l6, l7] (.ref a :: .ref a :: t) h Q := en_dup mm97 dX6_append_105
theorem i97_106 {d a l0 l1 l2 l3 l4 l5 l6 l7 t h Q} : Ev d 97 106 [l0, l1, l2, l3, l4, l5, l6, l7] (.ref a :: t) h Q = (hk h a = 7 ∧ Ev d 97 109 [l0, l1, l2, l3, l4, l5, l6, l7] (hF h a 2 :: t) h Q) := en_getfield mm97 dX6_append_106 (by decide +kernel)
theorem i97_109 {d l0 l1 l2 l3 l4 l5 l6 l7 t h Q} : Ev d 97 109 [l0, l1, l2, l3, l4, l5, l6, l7] t h Q = Ev d 97 110 [l0, l1, l2, l3, l4, l5, l6, l7] (.int 1 :: t) h Q := en_iconst mm97 dX6_append_109 (by decide)
theorem i97_110 {d l0 l1 l2 l3 l4 l5 l6 l7 t x y h Q} : Ev d 97 110 [l0, l1, l2, l3, l4, l5, l6, l7] (.int y :: .int x :: t) h Q = Ev d 97 111 [l0, l1, l2, l3, l4, l5, l6, l7] (.int (x + y) :: t) h Q := en_iadd mm97 dX6_append_110
theorem i97_111 {d a l0 l1 l2 l3 l4 l5 l6 l7 t x h Q} : Ev d 97 111 [l0, l1, l2, l3, l4, l5, l6, l7] (.int x :: .ref a :: t) h Q = (hk h a = 7 ∧ Ev d 97 114 [l0, l1, l2, l3, l4, l5, l6, l7] t (wF h a 2 (.int x)) Q) := en_putfield mm97 dX6_append_111 (by decide +kernel) rfl
theorem i97_114 {d l0 l1 l2 l3 l4 l5 l7 t x h Q} : Ev d 97 114 [l0, l1, l2, l3, l4, l5, some (.int x), l7] t h Q = Ev d 97 117 [l0, l1, l2, l3, l4, nl l5, some (.int (x + 1)), l7] t h Q := en_iinc mm97 dX6_append_114 rfl (by decide) rfl
theorem i97_117 {d l0 l1 l2 l3 l4 l5 l6 l7 t h Q} : Ev d 97 117 [l0, l1, l2, l3, l4, l5, l6, l7] t h Q = Ev d 97 23 [l0, l1, l2, l3, l4, l5, l6, l7] t h Q := en_goto mm97 dX6_append_117 rfl
theorem i97_120 {d a l1 l2 l3 l4 l5 l6 l7 t h Q} : Ev d 97 120 [some (.ref a), l1, l2, l3, l4, l5, l6, l7] t h Q = Ev d 97 121 [some (.ref a), l1, l2, l3, l4, l5, l6, l7] (.ref a :: t) h Q := en_aload_n mm97 dX6_append_120 rfl
theorem i97_121 {d a l0 l1 l2 l3 l4 l5 l6 l7 t h Q} : Ev d 97 121 [l0, l1, l2, l3, l4, l5, l6, l7] (.ref a :: t) h Q = (hk h a = 7 ∧ Ev d 97 124 [l0, l1, l2, l3, l4, l5, l6, l7] (hF h a 2 :: t) h Q) := en_getfield mm97 dX6_append_121 (by decide +kernel)
theorem i97_124 {d l0 l1 l2 l3 l4 l5 l6 l7 x h Q} : Ev d 97 124 [l0, l1, l2, l3, l4, l5, l6, l7] [.int x] h Q = Q (.inl (some (.int x))) h := en_ireturnI mm97 dX6_append_124 rfl
abbrev em98 : MI := (yX6_byteAt, cX6_byteAt, 2, some .int, 6, [])
theorem mm98 : mtab[98]? = some em98 := rfl
theorem in98 {d : Nat} {h : AH} {K : AO → AH → Prop} {v0 : Nat} {v1 : Int32} : EvM d 98 [(.ref v0), (.int v1)] h K = Ev d 98 0 [some (.ref v0), some (.int v1)] [] h K := evm_in mm98 (of_decide_eq_true rfl) rfl
theorem i98_0 {d l0 t x h Q} : Ev d 98 0 [l0, some (.int x)] t h Q = Ev d 98 1 [l0, some (.int x)] (.int x :: t) h Q := en_iload_n mm98 dX6_byteAt_0 rfl
theorem i98_1 {d a l1 t h Q} : Ev d 98 1 [some (.ref a), l1] t h Q = Ev d 98 2 [some (.ref a), l1] (.ref a :: t) h Q := en_aload_n mm98 dX6_byteAt_1 rfl
theorem i98_2 {d a l0 l1 t h Q} : Ev d 98 2 [l0, l1] (.ref a :: t) h Q = (hk h a = 7 ∧ Ev d 98 5 [l0, l1] (hF h a 3 :: t) h Q) := en_getfield mm98 dX6_byteAt_2 (by decide +kernel)
theorem i98_5 {d l0 l1 t x y h Q} : Ev d 98 5 [l0, l1] (.int y :: .int x :: t) h Q = if y ≤ x then Ev d 98 17 [l0, l1] t h Q else Ev d 98 8 [l0, l1] t h Q := en_ic_ge mm98 dX6_byteAt_5 rfl
theorem i98_8 {d a l1 t h Q} : Ev d 98 8 [some (.ref a), l1] t h Q = Ev d 98 9 [some (.ref a), l1] (.ref a :: t) h Q := en_aload_n mm98 dX6_byteAt_8 rfl
theorem i98_9 {d a l0 l1 t h Q} : Ev d 98 9 [l0, l1] (.ref a :: t) h Q = (hk h a = 7 ∧ Ev d 98 12 [l0, l1] (hF h a 1 :: t) h Q) := en_getfield mm98 dX6_byteAt_9 (by decide +kernel)
theorem i98_12 {d l0 t x h Q} : Ev d 98 12 [l0, some (.int x)] t h Q = Ev d 98 13 [l0, some (.int x)] (.int x :: t) h Q := en_iload_n mm98 dX6_byteAt_12 rfl
theorem i98_13 {d a j l0 l1 t h Q} : Ev d 98 13 [l0, l1] (.int j :: .ref a :: t) h Q = (hk h a = 10 ∧ inb j (hl h a) ∧ Ev d 98 14 [l0, l1] (.int (hA h a j.toNatClampNeg) :: t) h Q) := en_iaload mm98 dX6_byteAt_13
theorem i98_14 {d l0 l1 t h Q} : Ev d 98 14 [l0, l1] t h Q = Ev d 98 18 [l0, l1] t h Q := en_goto mm98 dX6_byteAt_14 rfl
theorem i98_17 {d l0 l1 t h Q} : Ev d 98 17 [l0, l1] t h Q = Ev d 98 18 [l0, l1] (.int (-1) :: t) h Q := en_iconst mm98 dX6_byteAt_17 (by decide)
theorem i98_18 {d l0 l1 x h Q} : Ev d 98 18 [l0, l1] [.int x] h Q = Q (.inl (some (.int x))) h := en_ireturnI mm98 dX6_byteAt_18 rfl
abbrev em99 : MI := (yX6_next, cX6_next, 1, some .int, 6, [])
theorem mm99 : mtab[99]? = some em99 := rfl
theorem in99 {d : Nat} {h : AH} {K : AO → AH → Prop} {v0 : Nat} : EvM d 99 [(.ref v0)] h K = Ev d 99 0 [some (.ref v0)] [] h K := evm_in mm99 (of_decide_eq_true rfl) rfl
theorem i99_0 {d a t h Q} : Ev d 99 0 [some (.ref a)] t h Q = Ev d 99 1 [some (.ref a)] (.ref a :: t) h Q := en_aload_n mm99 dX6_next_0 rfl
theorem i99_1 {d a t h Q} : Ev d 99 1 [some (.ref a)] t h Q = Ev d 99 2 [some (.ref a)] (.ref a :: t) h Q := en_aload_n mm99 dX6_next_1 rfl
theorem i99_2 {d a l0 t h Q} : Ev d 99 2 [l0] (.ref a :: t) h Q = (hk h a = 7 ∧ Ev d 99 5 [l0] (hF h a 4 :: t) h Q) := en_getfield mm99 dX6_next_2 (by decide +kernel)
theorem i99_5 {d a l0 x0 h Q} : Ev (d + 1) 99 5 [l0] [x0, .ref a] h Q = (hk h a = 7 ∧ EvM d 98 [.ref a, x0] h (konN (d + 1) 99 8 [l0] [] Q)) := en_virtualN mm99 dX6_next_5 (by decide +kernel : ml _ _ = some (2, 98)) (by decide) (rfl : mtab[98]? = some _) (by decide +kernel : npar _ = 1) rfl (by decide) rfl (of_decide_eq_true rfl) (len_cat (of_decide_eq_true rfl)) rfl rfl rfl
theorem i99_8 {d l0 t h Q} : Ev d 99 8 [l0] t h Q = Ev d 99 10 [l0] (.int 32 :: t) h Q := en_bipush mm99 dX6_next_8 (by decide)
theorem i99_10 {d l0 t x y h Q} : Ev d 99 10 [l0] (.int y :: .int x :: t) h Q = if x = y then Ev d 99 13 [l0] t h Q else Ev d 99 26 [l0] t h Q := en_ic_ne mm99 dX6_next_10 rfl
theorem i99_13 {d a t h Q} : Ev d 99 13 [some (.ref a)] t h Q = Ev d 99 14 [some (.ref a)] (.ref a :: t) h Q := en_aload_n mm99 dX6_next_13 rfl
theorem i99_14 {d a l0 t h Q} : Ev d 99 14 [l0] (.ref a :: t) h Q = Ev d 99 15 [l0] (.ref a :: .ref a :: t) h Q := en_dup mm99 dX6_next_14
theorem i99_15 {d a l0 t h Q} : Ev d 99 15 [l0] (.ref a :: t) h Q = (hk h a = 7 ∧ Ev d 99 18 [l0] (hF h a 4 :: t) h Q) := en_getfield mm99 dX6_next_15 (by decide +kernel)
theorem i99_18 {d l0 t h Q} : Ev d 99 18 [l0] t h Q = Ev d 99 19 [l0] (.int 1 :: t) h Q := en_iconst mm99 dX6_next_18 (by decide)
theorem i99_19 {d l0 t x y h Q} : Ev d 99 19 [l0] (.int y :: .int x :: t) h Q = Ev d 99 20 [l0] (.int (x + y) :: t) h Q := en_iadd mm99 dX6_next_19
theorem i99_20 {d a l0 t x h Q} : Ev d 99 20 [l0] (.int x :: .ref a :: t) h Q = (hk h a = 7 ∧ Ev d 99 23 [l0] t (wF h a 4 (.int x)) Q) := en_putfield mm99 dX6_next_20 (by decide +kernel) rfl
theorem i99_23 {d l0 t h Q} : Ev d 99 23 [l0] t h Q = Ev d 99 0 [l0] t h Q := en_goto mm99 dX6_next_23 rfl
theorem i99_26 {d a t h Q} : Ev d 99 26 [some (.ref a)] t h Q = Ev d 99 27 [some (.ref a)] (.ref a :: t) h Q := en_aload_n mm99 dX6_next_26 rfl
theorem i99_27 {d a t h Q} : Ev d 99 27 [some (.ref a)] t h Q = Ev d 99 28 [some (.ref a)] (.ref a :: t) h Q := en_aload_n mm99 dX6_next_27 rfl
theorem i99_28 {d a l0 t h Q} : Ev d 99 28 [l0] (.ref a :: t) h Q = (hk h a = 7 ∧ Ev d 99 31 [l0] (hF h a 4 :: t) h Q) := en_getfield mm99 dX6_next_28 (by decide +kernel)
theorem i99_31 {d a l0 x0 h Q} : Ev (d + 1) 99 31 [l0] [x0, .ref a] h Q = (hk h a = 7 ∧ EvM d 98 [.ref a, x0] h (konN (d + 1) 99 34 [l0] [] Q)) := en_virtualN mm99 dX6_next_31 (by decide +kernel : ml _ _ = some (2, 98)) (by decide) (rfl : mtab[98]? = some _) (by decide +kernel : npar _ = 1) rfl (by decide) rfl (of_decide_eq_true rfl) (len_cat (of_decide_eq_true rfl)) rfl rfl rfl
theorem i99_34 {d l0 x h Q} : Ev d 99 34 [l0] [.int x] h Q = Q (.inl (some (.int x))) h := en_ireturnI mm99 dX6_next_34 rfl
abbrev em100 : MI := (yX6_isGood, cX6_isGood, 1, some .boolean, 6, [])
theorem mm100 : mtab[100]? = some em100 := rfl
theorem in100 {d : Nat} {h : AH} {K : AO → AH → Prop} {v0 : Nat} : EvM d 100 [(.ref v0)] h K = Ev d 100 0 [some (.ref v0)] [] h K := evm_in mm100 (of_decide_eq_true rfl) rfl
theorem i100_0 {d a t h Q} : Ev d 100 0 [some (.ref a)] t h Q = Ev d 100 1 [some (.ref a)] (.ref a :: t) h Q := en_aload_n mm100 dX6_isGood_0 rfl
theorem i100_1 {d a l0 t h Q} : Ev d 100 1 [l0] (.ref a :: t) h Q = (hk h a = 7 ∧ Ev d 100 4 [l0] (hF h a 5 :: t) h Q) := en_getfield mm100 dX6_isGood_1 (by decide +kernel)
theorem i100_4 {d l0 t x h Q} : Ev d 100 4 [l0] (.int x :: t) h Q = if x = 0 then Ev d 100 7 [l0] t h Q else Ev d 100 11 [l0] t h Q := en_if_ne mm100 dX6_isGood_4 rfl
theorem i100_7 {d l0 t h Q} : Ev d 100 7 [l0] t h Q = Ev d 100 8 [l0] (.int 1 :: t) h Q := en_iconst mm100 dX6_isGood_7 (by decide)
theorem i100_8 {d l0 t h Q} : Ev d 100 8 [l0] t h Q = Ev d 100 12 [l0] t h Q := en_goto mm100 dX6_isGood_8 rfl
theorem i100_11 {d l0 t h Q} : Ev d 100 11 [l0] t h Q = Ev d 100 12 [l0] (.int 0 :: t) h Q := en_iconst mm100 dX6_isGood_11 (by decide)
theorem i100_12 {d l0 x h Q} : Ev d 100 12 [l0] [.int x] h Q = (narrow .boolean (.int x) = .int x ∧ Q (.inl (some (.int x))) h) := en_ireturn mm100 dX6_isGood_12 rfl
abbrev em101 : MI := (yX6_report, cX6_report, 3, none, 6, [])
theorem mm101 : mtab[101]? = some em101 := rfl
theorem in101 {d : Nat} {h : AH} {K : AO → AH → Prop} {v0 : Nat} {v1 : Int32} {v2 : Int32} : EvM d 101 [(.ref v0), (.int v1), (.int v2)] h K = Ev d 101 0 [some (.ref v0), some (.int v1), some (.int v2)] [] h K := evm_in mm101 (of_decide_eq_true rfl) rfl
theorem i101_0 {d a l1 l2 t h Q} : Ev d 101 0 [some (.ref a), l1, l2] t h Q = Ev d 101 1 [some (.ref a), l1, l2] (.ref a :: t) h Q := en_aload_n mm101 dX6_report_0 rfl
theorem i101_1 {d a l0 l1 l2 t h Q} : Ev d 101 1 [l0, l1, l2] (.ref a :: t) h Q = (hk h a = 7 ∧ Ev d 101 4 [l0, l1, l2] (hF h a 5 :: t) h Q) := en_getfield mm101 dX6_report_1 (by decide +kernel)
theorem i101_4 {d l0 l1 l2 t x h Q} : Ev d 101 4 [l0, l1, l2] (.int x :: t) h Q = if x = 0 then Ev d 101 8 [l0, l1, l2] t h Q else Ev d 101 7 [l0, l1, l2] t h Q := en_if_eq mm101 dX6_report_4 rfl
theorem i101_7 {d l0 l1 l2 h Q} : Ev d 101 7 [l0, l1, l2] [] h Q = Q (.inl none) h := en_return mm101 dX6_report_7 rfl
theorem i101_8 {d a l1 l2 t h Q} : Ev d 101 8 [some (.ref a), l1, l2] t h Q = Ev d 101 9 [some (.ref a), l1, l2] (.ref a :: t) h Q := en_aload_n mm101 dX6_report_8 rfl
theorem i101_9 {d l0 l2 t x h Q} : Ev d 101 9 [l0, some (.int x), l2] t h Q = Ev d 101 10 [l0, some (.int x), l2] (.int x :: t) h Q := en_iload_n mm101 dX6_report_9 rfl
theorem i101_10 {d a l0 l1 l2 t x h Q} : Ev d 101 10 [l0, l1, l2] (.int x :: .ref a :: t) h Q = (hk h a = 7 ∧ Ev d 101 13 [l0, l1, l2] t (wF h a 5 (.int x)) Q) := en_putfield mm101 dX6_report_10 (by decide +kernel) rfl
theorem i101_13 {d a l1 l2 t h Q} : Ev d 101 13 [some (.ref a), l1, l2] t h Q = Ev d 101 14 [some (.ref a), l1, l2] (.ref a :: t) h Q := en_aload_n mm101 dX6_report_13 rfl
theorem i101_14 {d l0 l1 t x h Q} : Ev d 101 14 [l0, l1, some (.int x)] t h Q = Ev d 101 15 [l0, l1, some (.int x)] (.int x :: t) h Q := en_iload_n mm101 dX6_report_14 rfl
theorem i101_15 {d a l0 l1 l2 t x h Q} : Ev d 101 15 [l0, l1, l2] (.int x :: .ref a :: t) h Q = (hk h a = 7 ∧ Ev d 101 18 [l0, l1, l2] t (wF h a 6 (.int x)) Q) := en_putfield mm101 dX6_report_15 (by decide +kernel) rfl
theorem i101_18 {d l0 l1 l2 h Q} : Ev d 101 18 [l0, l1, l2] [] h Q = Q (.inl none) h := en_return mm101 dX6_report_18 rfl
abbrev em102 : MI := (yX6_isDigit, cX6_isDigit, 1, some .boolean, 6, [])
theorem mm102 : mtab[102]? = some em102 := rfl
theorem in102 {d : Nat} {h : AH} {K : AO → AH → Prop} {v0 : Int32} : EvM d 102 [(.int v0)] h K = Ev d 102 0 [some (.int v0)] [] h K := evm_in mm102 (of_decide_eq_true rfl) rfl
theorem i102_0 {d t x h Q} : Ev d 102 0 [some (.int x)] t h Q = Ev d 102 1 [some (.int x)] (.int x :: t) h Q := en_iload_n mm102 dX6_isDigit_0 rfl
theorem i102_1 {d l0 t h Q} : Ev d 102 1 [l0] t h Q = Ev d 102 3 [l0] (.int 48 :: t) h Q := en_bipush mm102 dX6_isDigit_1 (by decide)
theorem i102_3 {d l0 t h Q} : Ev d 102 3 [l0] t h Q = Ev d 102 5 [l0] (.int 57 :: t) h Q := en_bipush mm102 dX6_isDigit_3 (by decide)
theorem i102_5 {d l0 x0 x1 x2 h Q} : Ev (d + 1) 102 5 [l0] [x0, x1, x2] h Q = EvM d 90 [x2, x1, x0] h (konN (d + 1) 102 8 [l0] [] Q) := en_staticN mm102 dX6_isDigit_5 (by decide +kernel : ml _ _ = some (0, 90)) (by decide) (rfl : mtab[90]? = some _) (by decide +kernel : npar _ = 3) (of_decide_eq_true rfl) (len_cat (of_decide_eq_true rfl)) rfl rfl rfl
theorem i102_8 {d l0 x h Q} : Ev d 102 8 [l0] [.int x] h Q = (narrow .boolean (.int x) = .int x ∧ Q (.inl (some (.int x))) h) := en_ireturn mm102 dX6_isDigit_8 rfl
abbrev em103 : MI := (yX6_takeWord, cX6_takeWord, 3, some .boolean, 6, [])
theorem mm103 : mtab[103]? = some em103 := rfl
theorem in103 {d : Nat} {h : AH} {K : AO → AH → Prop} {v0 : Nat} {v1 : Nat} : EvM d 103 [(.ref v0), (litV v1)] h K = Ev d 103 0 [some (.ref v0), some (litV v1), none] [] h K := evm_in mm103 (of_decide_eq_true rfl) rfl
theorem i103_0 {d a l1 l2 t h Q} : Ev d 103 0 [some (.ref a), l1, l2] t h Q = Ev d 103 1 [some (.ref a), l1, l2] (.ref a :: t) h Q := en_aload_n mm103 dX6_takeWord_0 rfl
theorem i103_1 {d a l0 l1 l2 h Q} : Ev (d + 1) 103 1 [l0, l1, l2] [.ref a] h Q = (hk h a = 7 ∧ EvM d 100 [.ref a] h (konN (d + 1) 103 4 [l0, l1, l2] [] Q)) := en_virtualN mm103 dX6_takeWord_1 (by decide +kernel : ml _ _ = some (2, 100)) (by decide) (rfl : mtab[100]? = some _) (by decide +kernel : npar _ = 0) rfl (by decide) rfl (of_decide_eq_true rfl) (len_cat (of_decide_eq_true rfl)) rfl rfl rfl
theorem i103_4 {d l0 l1 l2 t x h Q} : Ev d 103 4 [l0, l1, l2] (.int x :: t) h Q = if x = 0 then Ev d 103 7 [l0, l1, l2] t h Q else Ev d 103 9 [l0, l1, l2] t h Q := en_if_ne mm103 dX6_takeWord_4 rfl
theorem i103_7 {d l0 l1 l2 t h Q} : Ev d 103 7 [l0, l1, l2] t h Q = Ev d 103 8 [l0, l1, l2] (.int 0 :: t) h Q := en_iconst mm103 dX6_takeWord_7 (by decide)
theorem i103_8 {d l0 l1 l2 x h Q} : Ev d 103 8 [l0, l1, l2] [.int x] h Q = (narrow .boolean (.int x) = .int x ∧ Q (.inl (some (.int x))) h) := en_ireturn mm103 dX6_takeWord_8 rfl
theorem i103_9 {d a l1 l2 t h Q} : Ev d 103 9 [some (.ref a), l1, l2] t h Q = Ev d 103 10 [some (.ref a), l1, l2] (.ref a :: t) h Q := en_aload_n mm103 dX6_takeWord_9 rfl
theorem i103_10 {d a l0 l1 l2 h Q} : Ev (d + 1) 103 10 [l0, l1, l2] [.ref a] h Q = (hk h a = 7 ∧ EvM d 99 [.ref a] h (konN (d + 1) 103 13 [l0, l1, l2] [] Q)) := en_virtualN mm103 dX6_takeWord_10 (by decide +kernel : ml _ _ = some (2, 99)) (by decide) (rfl : mtab[99]? = some _) (by decide +kernel : npar _ = 0) rfl (by decide) rfl (of_decide_eq_true rfl) (len_cat (of_decide_eq_true rfl)) rfl rfl rfl
theorem i103_13 {d l0 l1 l2 t x h Q} : Ev d 103 13 [l0, l1, l2] (.int x :: t) h Q = Ev d 103 14 [l0, l1, l2] t h Q := en_popI mm103 dX6_takeWord_13
theorem i103_14 {d l0 l1 l2 t h Q} : Ev d 103 14 [l0, l1, l2] t h Q = Ev d 103 15 [l0, l1, l2] (.int 0 :: t) h Q := en_iconst mm103 dX6_takeWord_14 (by decide)
theorem i103_15 {d l0 l1 l2 t x h Q} : Ev d 103 15 [l0, l1, l2] (.int x :: t) h Q = Ev d 103 16 [l0, nl l1, some (.int x)] t h Q := en_istore_n mm103 dX6_takeWord_15 (of_decide_eq_true rfl) rfl
theorem i103_16 {d l0 l1 t x h Q} : Ev d 103 16 [l0, l1, some (.int x)] t h Q = Ev d 103 17 [l0, l1, some (.int x)] (.int x :: t) h Q := en_iload_n mm103 dX6_takeWord_16 rfl
theorem i103_17 {d l0 l2 t x h Q} : Ev d 103 17 [l0, some x, l2] t h Q = (isR x = true ∧ Ev d 103 18 [l0, some x, l2] (x :: t) h Q) := en_aload_nV mm103 dX6_takeWord_17 rfl
theorem i103_18 {d l0 l1 l2 x0 x1 h Q} : Ev (d + 1) 103 18 [l0, l1, l2] [x0, x1] h Q = (recv h 8 (some x0) = true ∧ EvM d 183 [x0] h (konN (d + 1) 103 21 [l0, l1, l2] [x1] Q)) := en_virtualV mm103 dX6_takeWord_18 (by decide +kernel : ml _ _ = some (2, 183)) (by decide) (rfl : mtab[183]? = some _) (by decide +kernel : npar _ = 0) rfl rfl (of_decide_eq_true rfl) (len_cat (of_decide_eq_true rfl)) rfl rfl rfl
theorem i103_21 {d l0 l1 l2 t x y h Q} : Ev d 103 21 [l0, l1, l2] (.int y :: .int x :: t) h Q = if y ≤ x then Ev d 103 48 [l0, l1, l2] t h Q else Ev d 103 24 [l0, l1, l2] t h Q := en_ic_ge mm103 dX6_takeWord_21 rfl
theorem i103_24 {d a l1 l2 t h Q} : Ev d 103 24 [some (.ref a), l1, l2] t h Q = Ev d 103 25 [some (.ref a), l1, l2] (.ref a :: t) h Q := en_aload_n mm103 dX6_takeWord_24 rfl
theorem i103_25 {d a l1 l2 t h Q} : Ev d 103 25 [some (.ref a), l1, l2] t h Q = Ev d 103 26 [some (.ref a), l1, l2] (.ref a :: t) h Q := en_aload_n mm103 dX6_takeWord_25 rfl
theorem i103_26 {d a l0 l1 l2 t h Q} : Ev d 103 26 [l0, l1, l2] (.ref a :: t) h Q = (hk h a = 7 ∧ Ev d 103 29 [l0, l1, l2] (hF h a 4 :: t) h Q) := en_getfield mm103 dX6_takeWord_26 (by decide +kernel)
theorem i103_29 {d l0 l1 t x h Q} : Ev d 103 29 [l0, l1, some (.int x)] t h Q = Ev d 103 30 [l0, l1, some (.int x)] (.int x :: t) h Q := en_iload_n mm103 dX6_takeWord_29 rfl
theorem i103_30 {d l0 l1 l2 t x y h Q} : Ev d 103 30 [l0, l1, l2] (.int y :: .int x :: t) h Q = Ev d 103 31 [l0, l1, l2] (.int (x + y) :: t) h Q := en_iadd mm103 dX6_takeWord_30
theorem i103_31 {d a l0 l1 l2 x0 h Q} : Ev (d + 1) 103 31 [l0, l1, l2] [x0, .ref a] h Q = (hk h a = 7 ∧ EvM d 98 [.ref a, x0] h (konN (d + 1) 103 34 [l0, l1, l2] [] Q)) := en_virtualN mm103 dX6_takeWord_31 (by decide +kernel : ml _ _ = some (2, 98)) (by decide) (rfl : mtab[98]? = some _) (by decide +kernel : npar _ = 1) rfl (by decide) rfl (of_decide_eq_true rfl) (len_cat (of_decide_eq_true rfl)) rfl rfl rfl
theorem i103_34 {d l0 l2 t x h Q} : Ev d 103 34 [l0, some x, l2] t h Q = (isR x = true ∧ Ev d 103 35 [l0, some x, l2] (x :: t) h Q) := en_aload_nV mm103 dX6_takeWord_34 rfl
theorem i103_35 {d l0 l1 t x h Q} : Ev d 103 35 [l0, l1, some (.int x)] t h Q = Ev d 103 36 [l0, l1, some (.int x)] (.int x :: t) h Q := en_iload_n mm103 dX6_takeWord_35 rfl
theorem i103_36 {d l0 l1 l2 x0 x1 x2 h Q} : Ev (d + 1) 103 36 [l0, l1, l2] [x0, x1, x2] h Q = (recv h 8 (some x1) = true ∧ EvM d 184 [x1, x0] h (konN (d + 1) 103 39 [l0, l1, l2] [x2] Q)) := en_virtualV mm103 dX6_takeWord_36 (by decide +kernel : ml _ _ = some (2, 184)) (by decide) (rfl : mtab[184]? = some _) (by decide +kernel : npar _ = 1) rfl rfl (of_decide_eq_true rfl) (len_cat (of_decide_eq_true rfl)) rfl rfl rfl
theorem i103_39 {d l0 l1 l2 t x y h Q} : Ev d 103 39 [l0, l1, l2] (.int y :: .int x :: t) h Q = if x = y then Ev d 103 42 [l0, l1, l2] t h Q else Ev d 103 48 [l0, l1, l2] t h Q := en_ic_ne mm103 dX6_takeWord_39 rfl
theorem i103_42 {d l0 l1 t x h Q} : Ev d 103 42 [l0, l1, some (.int x)] t h Q = Ev d 103 45 [l0, nl l1, some (.int (x + 1))] t h Q := en_iinc mm103 dX6_takeWord_42 rfl (by decide) rfl
theorem i103_45 {d l0 l1 l2 t h Q} : Ev d 103 45 [l0, l1, l2] t h Q = Ev d 103 16 [l0, l1, l2] t h Q := en_goto mm103 dX6_takeWord_45 rfl
theorem i103_48 {d l0 l1 t x h Q} : Ev d 103 48 [l0, l1, some (.int x)] t h Q = Ev d 103 49 [l0, l1, some (.int x)] (.int x :: t) h Q := en_iload_n mm103 dX6_takeWord_48 rfl
theorem i103_49 {d l0 l2 t x h Q} : Ev d 103 49 [l0, some x, l2] t h Q = (isR x = true ∧ Ev d 103 50 [l0, some x, l2] (x :: t) h Q) := en_aload_nV mm103 dX6_takeWord_49 rfl
theorem i103_50 {d l0 l1 l2 x0 x1 h Q} : Ev (d + 1) 103 50 [l0, l1, l2] [x0, x1] h Q = (recv h 8 (some x0) = true ∧ EvM d 183 [x0] h (konN (d + 1) 103 53 [l0, l1, l2] [x1] Q)) := en_virtualV mm103 dX6_takeWord_50 (by decide +kernel : ml _ _ = some (2, 183)) (by decide) (rfl : mtab[183]? = some _) (by decide +kernel : npar _ = 0) rfl rfl (of_decide_eq_true rfl) (len_cat (of_decide_eq_true rfl)) rfl rfl rfl
theorem i103_53 {d l0 l1 l2 t x y h Q} : Ev d 103 53 [l0, l1, l2] (.int y :: .int x :: t) h Q = if x < y then Ev d 103 76 [l0, l1, l2] t h Q else Ev d 103 56 [l0, l1, l2] t h Q := en_ic_lt mm103 dX6_takeWord_53 rfl
theorem i103_56 {d a l1 l2 t h Q} : Ev d 103 56 [some (.ref a), l1, l2] t h Q = Ev d 103 57 [some (.ref a), l1, l2] (.ref a :: t) h Q := en_aload_n mm103 dX6_takeWord_56 rfl
theorem i103_57 {d a l1 l2 t h Q} : Ev d 103 57 [some (.ref a), l1, l2] t h Q = Ev d 103 58 [some (.ref a), l1, l2] (.ref a :: t) h Q := en_aload_n mm103 dX6_takeWord_57 rfl
theorem i103_58 {d a l0 l1 l2 t h Q} : Ev d 103 58 [l0, l1, l2] (.ref a :: t) h Q = (hk h a = 7 ∧ Ev d 103 61 [l0, l1, l2] (hF h a 4 :: t) h Q) := en_getfield mm103 dX6_takeWord_58 (by decide +kernel)
theorem i103_61 {d l0 l1 t x h Q} : Ev d 103 61 [l0, l1, some (.int x)] t h Q = Ev d 103 62 [l0, l1, some (.int x)] (.int x :: t) h Q := en_iload_n mm103 dX6_takeWord_61 rfl
theorem i103_62 {d l0 l1 l2 t x y h Q} : Ev d 103 62 [l0, l1, l2] (.int y :: .int x :: t) h Q = Ev d 103 63 [l0, l1, l2] (.int (x + y) :: t) h Q := en_iadd mm103 dX6_takeWord_62
theorem i103_63 {d a l0 l1 l2 x0 h Q} : Ev (d + 1) 103 63 [l0, l1, l2] [x0, .ref a] h Q = (hk h a = 7 ∧ EvM d 98 [.ref a, x0] h (konN (d + 1) 103 66 [l0, l1, l2] [] Q)) := en_virtualN mm103 dX6_takeWord_63 (by decide +kernel : ml _ _ = some (2, 98)) (by decide) (rfl : mtab[98]? = some _) (by decide +kernel : npar _ = 1) rfl (by decide) rfl (of_decide_eq_true rfl) (len_cat (of_decide_eq_true rfl)) rfl rfl rfl
theorem i103_66 {d l0 l1 l2 t h Q} : Ev d 103 66 [l0, l1, l2] t h Q = Ev d 103 68 [l0, l1, l2] (.int 97 :: t) h Q := en_bipush mm103 dX6_takeWord_66 (by decide)
theorem i103_68 {d l0 l1 l2 t h Q} : Ev d 103 68 [l0, l1, l2] t h Q = Ev d 103 70 [l0, l1, l2] (.int 122 :: t) h Q := en_bipush mm103 dX6_takeWord_68 (by decide)
theorem i103_70 {d l0 l1 l2 x0 x1 x2 h Q} : Ev (d + 1) 103 70 [l0, l1, l2] [x0, x1, x2] h Q = EvM d 90 [x2, x1, x0] h (konN (d + 1) 103 73 [l0, l1, l2] [] Q) := en_staticN mm103 dX6_takeWord_70 (by decide +kernel : ml _ _ = some (0, 90)) (by decide) (rfl : mtab[90]? = some _) (by decide +kernel : npar _ = 3) (of_decide_eq_true rfl) (len_cat (of_decide_eq_true rfl)) rfl rfl rfl
theorem i103_73 {d l0 l1 l2 t x h Q} : Ev d 103 73 [l0, l1, l2] (.int x :: t) h Q = if x = 0 then Ev d 103 78 [l0, l1, l2] t h Q else Ev d 103 76 [l0, l1, l2] t h Q := en_if_eq mm103 dX6_takeWord_73 rfl
theorem i103_76 {d l0 l1 l2 t h Q} : Ev d 103 76 [l0, l1, l2] t h Q = Ev d 103 77 [l0, l1, l2] (.int 0 :: t) h Q := en_iconst mm103 dX6_takeWord_76 (by decide)
theorem i103_77 {d l0 l1 l2 x h Q} : Ev d 103 77 [l0, l1, l2] [.int x] h Q = (narrow .boolean (.int x) = .int x ∧ Q (.inl (some (.int x))) h) := en_ireturn mm103 dX6_takeWord_77 rfl
theorem i103_78 {d a l1 l2 t h Q} : Ev d 103 78 [some (.ref a), l1, l2] t h Q = Ev d 103 79 [some (.ref a), l1, l2] (.ref a :: t) h Q := en_aload_n mm103 dX6_takeWord_78 rfl
theorem i103_79 {d a l0 l1 l2 t h Q} : Ev d 103 79 [l0, l1, l2] (.ref a :: t) h Q = Ev d 103 80 [l0, l1, l2] (.ref a :: .ref a :: t) h Q := en_dup mm103 dX6_takeWord_79
theorem i103_80 {d a l0 l1 l2 t h Q} : Ev d 103 80 [l0, l1, l2] (.ref a :: t) h Q = (hk h a = 7 ∧ Ev d 103 83 [l0, l1, l2] (hF h a 4 :: t) h Q) := en_getfield mm103 dX6_takeWord_80 (by decide +kernel)
theorem i103_83 {d l0 l1 t x h Q} : Ev d 103 83 [l0, l1, some (.int x)] t h Q = Ev d 103 84 [l0, l1, some (.int x)] (.int x :: t) h Q := en_iload_n mm103 dX6_takeWord_83 rfl
theorem i103_84 {d l0 l1 l2 t x y h Q} : Ev d 103 84 [l0, l1, l2] (.int y :: .int x :: t) h Q = Ev d 103 85 [l0, l1, l2] (.int (x + y) :: t) h Q := en_iadd mm103 dX6_takeWord_84
theorem i103_85 {d a l0 l1 l2 t x h Q} : Ev d 103 85 [l0, l1, l2] (.int x :: .ref a :: t) h Q = (hk h a = 7 ∧ Ev d 103 88 [l0, l1, l2] t (wF h a 4 (.int x)) Q) := en_putfield mm103 dX6_takeWord_85 (by decide +kernel) rfl
theorem i103_88 {d l0 l1 l2 t h Q} : Ev d 103 88 [l0, l1, l2] t h Q = Ev d 103 89 [l0, l1, l2] (.int 1 :: t) h Q := en_iconst mm103 dX6_takeWord_88 (by decide)
theorem i103_89 {d l0 l1 l2 x h Q} : Ev d 103 89 [l0, l1, l2] [.int x] h Q = (narrow .boolean (.int x) = .int x ∧ Q (.inl (some (.int x))) h) := en_ireturn mm103 dX6_takeWord_89 rfl
abbrev em104 : MI := (yX6_expect, cX6_expect, 2, none, 6, [])
theorem mm104 : mtab[104]? = some em104 := rfl
theorem in104 {d : Nat} {h : AH} {K : AO → AH → Prop} {v0 : Nat} {v1 : Int32} : EvM d 104 [(.ref v0), (.int v1)] h K = Ev d 104 0 [some (.ref v0), some (.int v1)] [] h K := evm_in mm104 (of_decide_eq_true rfl) rfl
theorem i104_0 {d a l1 t h Q} : Ev d 104 0 [some (.ref a), l1] t h Q = Ev d 104 1 [some (.ref a), l1] (.ref a :: t) h Q := en_aload_n mm104 dX6_expect_0 rfl
theorem i104_1 {d a l0 l1 h Q} : Ev (d + 1) 104 1 [l0, l1] [.ref a] h Q = (hk h a = 7 ∧ EvM d 100 [.ref a] h (konN (d + 1) 104 4 [l0, l1] [] Q)) := en_virtualN mm104 dX6_expect_1 (by decide +kernel : ml _ _ = some (2, 100)) (by decide) (rfl : mtab[100]? = some _) (by decide +kernel : npar _ = 0) rfl (by decide) rfl (of_decide_eq_true rfl) (len_cat (of_decide_eq_true rfl)) rfl rfl rfl
theorem i104_4 {d l0 l1 t x h Q} : Ev d 104 4 [l0, l1] (.int x :: t) h Q = if x = 0 then Ev d 104 7 [l0, l1] t h Q else Ev d 104 8 [l0, l1] t h Q := en_if_ne mm104 dX6_expect_4 rfl
theorem i104_7 {d l0 l1 h Q} : Ev d 104 7 [l0, l1] [] h Q = Q (.inl none) h := en_return mm104 dX6_expect_7 rfl
theorem i104_8 {d a l1 t h Q} : Ev d 104 8 [some (.ref a), l1] t h Q = Ev d 104 9 [some (.ref a), l1] (.ref a :: t) h Q := en_aload_n mm104 dX6_expect_8 rfl
theorem i104_9 {d a l0 l1 h Q} : Ev (d + 1) 104 9 [l0, l1] [.ref a] h Q = (hk h a = 7 ∧ EvM d 99 [.ref a] h (konN (d + 1) 104 12 [l0, l1] [] Q)) := en_virtualN mm104 dX6_expect_9 (by decide +kernel : ml _ _ = some (2, 99)) (by decide) (rfl : mtab[99]? = some _) (by decide +kernel : npar _ = 0) rfl (by decide) rfl (of_decide_eq_true rfl) (len_cat (of_decide_eq_true rfl)) rfl rfl rfl
theorem i104_12 {d l0 t x h Q} : Ev d 104 12 [l0, some (.int x)] t h Q = Ev d 104 13 [l0, some (.int x)] (.int x :: t) h Q := en_iload_n mm104 dX6_expect_12 rfl
theorem i104_13 {d l0 l1 t x y h Q} : Ev d 104 13 [l0, l1] (.int y :: .int x :: t) h Q = if x = y then Ev d 104 16 [l0, l1] t h Q else Ev d 104 29 [l0, l1] t h Q := en_ic_ne mm104 dX6_expect_13 rfl
theorem i104_16 {d a l1 t h Q} : Ev d 104 16 [some (.ref a), l1] t h Q = Ev d 104 17 [some (.ref a), l1] (.ref a :: t) h Q := en_aload_n mm104 dX6_expect_16 rfl
theorem i104_17 {d a l0 l1 t h Q} : Ev d 104 17 [l0, l1] (.ref a :: t) h Q = Ev d 104 18 [l0, l1] (.ref a :: .ref a :: t) h Q := en_dup mm104 dX6_expect_17
theorem i104_18 {d a l0 l1 t h Q} : Ev d 104 18 [l0, l1] (.ref a :: t) h Q = (hk h a = 7 ∧ Ev d 104 21 [l0, l1] (hF h a 4 :: t) h Q) := en_getfield mm104 dX6_expect_18 (by decide +kernel)
theorem i104_21 {d l0 l1 t h Q} : Ev d 104 21 [l0, l1] t h Q = Ev d 104 22 [l0, l1] (.int 1 :: t) h Q := en_iconst mm104 dX6_expect_21 (by decide)
theorem i104_22 {d l0 l1 t x y h Q} : Ev d 104 22 [l0, l1] (.int y :: .int x :: t) h Q = Ev d 104 23 [l0, l1] (.int (x + y) :: t) h Q := en_iadd mm104 dX6_expect_22
theorem i104_23 {d a l0 l1 t x h Q} : Ev d 104 23 [l0, l1] (.int x :: .ref a :: t) h Q = (hk h a = 7 ∧ Ev d 104 26 [l0, l1] t (wF h a 4 (.int x)) Q) := en_putfield mm104 dX6_expect_23 (by decide +kernel) rfl
theorem i104_26 {d l0 l1 t h Q} : Ev d 104 26 [l0, l1] t h Q = Ev d 104 39 [l0, l1] t h Q := en_goto mm104 dX6_expect_26 rfl
theorem i104_29 {d a l1 t h Q} : Ev d 104 29 [some (.ref a), l1] t h Q = Ev d 104 30 [some (.ref a), l1] (.ref a :: t) h Q := en_aload_n mm104 dX6_expect_29 rfl
theorem i104_30 {d l0 l1 t h Q} : Ev d 104 30 [l0, l1] t h Q = Ev d 104 32 [l0, l1] (.int (-2) :: t) h Q := en_bipush mm104 dX6_expect_30 (by decide)
theorem i104_32 {d a l1 t h Q} : Ev d 104 32 [some (.ref a), l1] t h Q = Ev d 104 33 [some (.ref a), l1] (.ref a :: t) h Q := en_aload_n mm104 dX6_expect_32 rfl
theorem i104_33 {d a l0 l1 t h Q} : Ev d 104 33 [l0, l1] (.ref a :: t) h Q = (hk h a = 7 ∧ Ev d 104 36 [l0, l1] (hF h a 4 :: t) h Q) := en_getfield mm104 dX6_expect_33 (by decide +kernel)
theorem i104_36 {d a l0 l1 x0 x1 h Q} : Ev (d + 1) 104 36 [l0, l1] [x0, x1, .ref a] h Q = (hk h a = 7 ∧ EvM d 101 [.ref a, x1, x0] h (konN (d + 1) 104 39 [l0, l1] [] Q)) := en_virtualN mm104 dX6_expect_36 (by decide +kernel : ml _ _ = some (2, 101)) (by decide) (rfl : mtab[101]? = some _) (by decide +kernel : npar _ = 2) rfl (by decide) rfl (of_decide_eq_true rfl) (len_cat (of_decide_eq_true rfl)) rfl rfl rfl
theorem i104_39 {d l0 l1 h Q} : Ev d 104 39 [l0, l1] [] h Q = Q (.inl none) h := en_return mm104 dX6_expect_39 rfl
abbrev em105 : MI := (yX6_number, cX6_number, 5, some .int, 6, [])
theorem mm105 : mtab[105]? = some em105 := rfl
theorem in105 {d : Nat} {h : AH} {K : AO → AH → Prop} {v0 : Nat} {v1 : Int32} {v2 : Int32} : EvM d 105 [(.ref v0), (.int v1), (.int v2)] h K = Ev d 105 0 [some (.ref v0), some (.int v1), some (.int v2), none, none] [] h K := evm_in mm105 (of_decide_eq_true rfl) rfl
theorem i105_0 {d a l1 l2 l3 l4 t h Q} : Ev d 105 0 [some (.ref a), l1, l2, l3, l4] t h Q = Ev d 105 1 [some (.ref a), l1, l2, l3, l4] (.ref a :: t) h Q := en_aload_n mm105 dX6_number_0 rfl
theorem i105_1 {d a l0 l1 l2 l3 l4 h Q} : Ev (d + 1) 105 1 [l0, l1, l2, l3, l4] [.ref a] h Q = (hk h a = 7 ∧ EvM d 100 [.ref a] h (konN (d + 1) 105 4 [l0, l1, l2, l3, l4] [] Q)) := en_virtualN mm105 dX6_number_1 (by decide +kernel : ml _ _ = some (2, 100)) (by decide) (rfl : mtab[100]? = some _) (by decide +kernel : npar _ = 0) rfl (by decide) rfl (of_decide_eq_true rfl) (len_cat (of_decide_eq_true rfl)) rfl rfl rfl
theorem i105_4 {d l0 l1 l2 l3 l4 t x h Q} : Ev d 105 4 [l0, l1, l2, l3, l4] (.int x :: t) h Q = if x = 0 then Ev d 105 7 [l0, l1, l2, l3, l4] t h Q else Ev d 105 9 [l0, l1, l2, l3, l4] t h Q := en_if_ne mm105 dX6_number_4 rfl
theorem i105_7 {d l0 l1 l2 l3 l4 t h Q} : Ev d 105 7 [l0, l1, l2, l3, l4] t h Q = Ev d 105 8 [l0, l1, l2, l3, l4] (.int 0 :: t) h Q := en_iconst mm105 dX6_number_7 (by decide)
theorem i105_8 {d l0 l1 l2 l3 l4 x h Q} : Ev d 105 8 [l0, l1, l2, l3, l4] [.int x] h Q = Q (.inl (some (.int x))) h := en_ireturnI mm105 dX6_number_8 rfl
theorem i105_9 {d a l1 l2 l3 l4 t h Q} : Ev d 105 9 [some (.ref a), l1, l2, l3, l4] t h Q = Ev d 105 10 [some (.ref a), l1, l2, l3, l4] (.ref a :: t) h Q := en_aload_n mm105 dX6_number_9 rfl
theorem i105_10 {d a l0 l1 l2 l3 l4 h Q} : Ev (d + 1) 105 10 [l0, l1, l2, l3, l4] [.ref a] h Q = (hk h a = 7 ∧ EvM d 99 [.ref a] h (konN (d + 1) 105 13 [l0, l1, l2, l3, l4] [] Q)) := en_virtualN mm105 dX6_number_10 (by decide +kernel : ml _ _ = some (2, 99)) (by decide) (rfl : mtab[99]? = some _) (by decide +kernel : npar _ = 0) rfl (by decide) rfl (of_decide_eq_true rfl) (len_cat (of_decide_eq_true rfl)) rfl rfl rfl
theorem i105_13 {d l0 l1 l2 l3 l4 x0 h Q} : Ev (d + 1) 105 13 [l0, l1, l2, l3, l4] [x0] h Q = EvM d 102 [x0] h (konN (d + 1) 105 16 [l0, l1, l2, l3, l4] [] Q) := en_staticN mm105 dX6_number_13 (by decide +kernel : ml _ _ = some (0, 102)) (by decide) (rfl : mtab[102]? = some _) (by decide +kernel : npar _ = 1) (of_decide_eq_true rfl) (len_cat (of_decide_eq_true rfl)) rfl rfl rfl
theorem i105_16 {d l0 l1 l2 l3 l4 t x h Q} : Ev d 105 16 [l0, l1, l2, l3, l4] (.int x :: t) h Q = if x = 0 then Ev d 105 19 [l0, l1, l2, l3, l4] t h Q else Ev d 105 31 [l0, l1, l2, l3, l4] t h Q := en_if_ne mm105 dX6_number_16 rfl
theorem i105_19 {d a l1 l2 l3 l4 t h Q} : Ev d 105 19 [some (.ref a), l1, l2, l3, l4] t h Q = Ev d 105 20 [some (.ref a), l1, l2, l3, l4] (.ref a :: t) h Q := en_aload_n mm105 dX6_number_19 rfl
theorem i105_20 {d l0 l1 l2 l3 l4 t h Q} : Ev d 105 20 [l0, l1, l2, l3, l4] t h Q = Ev d 105 22 [l0, l1, l2, l3, l4] (.int (-2) :: t) h Q := en_bipush mm105 dX6_number_20 (by decide)
theorem i105_22 {d a l1 l2 l3 l4 t h Q} : Ev d 105 22 [some (.ref a), l1, l2, l3, l4] t h Q = Ev d 105 23 [some (.ref a), l1, l2, l3, l4] (.ref a :: t) h Q := en_aload_n mm105 dX6_number_22 rfl
theorem i105_23 {d a l0 l1 l2 l3 l4 t h Q} : Ev d 105 23 [l0, l1, l2, l3, l4] (.ref a :: t) h Q = (hk h a = 7 ∧ Ev d 105 26 [l0, l1, l2, l3, l4] (hF h a 4 :: t) h Q) := en_getfield mm105 dX6_number_23 (by decide +kernel)
theorem i105_26 {d a l0 l1 l2 l3 l4 x0 x1 h Q} : Ev (d + 1) 105 26 [l0, l1, l2, l3, l4] [x0, x1, .ref a] h Q = (hk h a = 7 ∧ EvM d 101 [.ref a, x1, x0] h (konN (d + 1) 105 29 [l0, l1, l2, l3, l4] [] Q)) := en_virtualN mm105 dX6_number_26 (by decide +kernel : ml _ _ = some (2, 101)) (by decide) (rfl : mtab[101]? = some _) (by decide +kernel : npar _ = 2) rfl (by decide) rfl (of_decide_eq_true rfl) (len_cat (of_decide_eq_true rfl)) rfl rfl rfl
theorem i105_29 {d l0 l1 l2 l3 l4 t h Q} : Ev d 105 29 [l0, l1, l2, l3, l4] t h Q = Ev d 105 30 [l0, l1, l2, l3, l4] (.int 0 :: t) h Q := en_iconst mm105 dX6_number_29 (by decide)
theorem i105_30 {d l0 l1 l2 l3 l4 x h Q} : Ev d 105 30 [l0, l1, l2, l3, l4] [.int x] h Q = Q (.inl (some (.int x))) h := en_ireturnI mm105 dX6_number_30 rfl
theorem i105_31 {d a l1 l2 l3 l4 t h Q} : Ev d 105 31 [some (.ref a), l1, l2, l3, l4] t h Q = Ev d 105 32 [some (.ref a), l1, l2, l3, l4] (.ref a :: t) h Q := en_aload_n mm105 dX6_number_31 rfl
theorem i105_32 {d a l0 l1 l2 l3 l4 t h Q} : Ev d 105 32 [l0, l1, l2, l3, l4] (.ref a :: t) h Q = (hk h a = 7 ∧ Ev d 105 35 [l0, l1, l2, l3, l4] (hF h a 4 :: t) h Q) := en_getfield mm105 dX6_number_32 (by decide +kernel)
theorem i105_35 {d l0 l1 l2 l3 l4 t x h Q} : Ev d 105 35 [l0, l1, l2, l3, l4] (.int x :: t) h Q = Ev d 105 36 [l0, l1, nl l2, some (.int x), l4] t h Q := en_istore_n mm105 dX6_number_35 (of_decide_eq_true rfl) rfl
theorem i105_36 {d l0 l1 l2 l3 l4 t h Q} : Ev d 105 36 [l0, l1, l2, l3, l4] t h Q = Ev d 105 37 [l0, l1, l2, l3, l4] (.int 0 :: t) h Q := en_iconst mm105 dX6_number_36 (by decide)
theorem i105_37 {d l0 l1 l2 l3 l4 t x h Q} : Ev d 105 37 [l0, l1, l2, l3, l4] (.int x :: t) h Q = Ev d 105 39 [l0, l1, l2, nl l3, some (.int x)] t h Q := en_istore mm105 dX6_number_37 (of_decide_eq_true rfl) rfl
theorem i105_39 {d a l1 l2 l3 l4 t h Q} : Ev d 105 39 [some (.ref a), l1, l2, l3, l4] t h Q = Ev d 105 40 [some (.ref a), l1, l2, l3, l4] (.ref a :: t) h Q := en_aload_n mm105 dX6_number_39 rfl
theorem i105_40 {d a l1 l2 l3 l4 t h Q} : Ev d 105 40 [some (.ref a), l1, l2, l3, l4] t h Q = Ev d 105 41 [some (.ref a), l1, l2, l3, l4] (.ref a :: t) h Q := en_aload_n mm105 dX6_number_40 rfl
theorem i105_41 {d a l0 l1 l2 l3 l4 t h Q} : Ev d 105 41 [l0, l1, l2, l3, l4] (.ref a :: t) h Q = (hk h a = 7 ∧ Ev d 105 44 [l0, l1, l2, l3, l4] (hF h a 4 :: t) h Q) := en_getfield mm105 dX6_number_41 (by decide +kernel)
theorem i105_44 {d a l0 l1 l2 l3 l4 x0 h Q} : Ev (d + 1) 105 44 [l0, l1, l2, l3, l4] [x0, .ref a] h Q = (hk h a = 7 ∧ EvM d 98 [.ref a, x0] h (konN (d + 1) 105 47 [l0, l1, l2, l3, l4] [] Q)) := en_virtualN mm105 dX6_number_44 (by decide +kernel : ml _ _ = some (2, 98)) (by decide) (rfl : mtab[98]? = some _) (by decide +kernel : npar _ = 1) rfl (by decide) rfl (of_decide_eq_true rfl) (len_cat (of_decide_eq_true rfl)) rfl rfl rfl
theorem i105_47 {d l0 l1 l2 l3 l4 x0 h Q} : Ev (d + 1) 105 47 [l0, l1, l2, l3, l4] [x0] h Q = EvM d 102 [x0] h (konN (d + 1) 105 50 [l0, l1, l2, l3, l4] [] Q) := en_staticN mm105 dX6_number_47 (by decide +kernel : ml _ _ = some (0, 102)) (by decide) (rfl : mtab[102]? = some _) (by decide +kernel : npar _ = 1) (of_decide_eq_true rfl) (len_cat (of_decide_eq_true rfl)) rfl rfl rfl
theorem i105_50 {d l0 l1 l2 l3 l4 t x h Q} : Ev d 105 50 [l0, l1, l2, l3, l4] (.int x :: t) h Q = if x = 0 then Ev d 105 90 [l0, l1, l2, l3, l4] t h Q else Ev d 105 53 [l0, l1, l2, l3, l4] t h Q := en_if_eq mm105 dX6_number_50 rfl
theorem i105_53 {d l0 l1 l2 l3 l4 t h Q} : Ev d 105 53 [l0, l1, l2, l3, l4] t h Q = Ev d 105 55 [l0, l1, l2, l3, l4] (.int 1000000 :: t) h Q := en_ldcI mm105 dX6_number_53 (by decide +kernel : look _ cstT = some (1008, 1000000)) (by decide)
theorem i105_55 {d l0 l1 l2 l3 l4 t h Q} : Ev d 105 55 [l0, l1, l2, l3, l4] t h Q = Ev d 105 57 [l0, l1, l2, l3, l4] (.int 10 :: t) h Q := en_bipush mm105 dX6_number_55 (by decide)
theorem i105_57 {d l0 l1 l2 l3 t x h Q} : Ev d 105 57 [l0, l1, l2, l3, some (.int x)] t h Q = Ev d 105 59 [l0, l1, l2, l3, some (.int x)] (.int x :: t) h Q := en_iload mm105 dX6_number_57 rfl
theorem i105_59 {d l0 l1 l2 l3 l4 t x y h Q} : Ev d 105 59 [l0, l1, l2, l3, l4] (.int y :: .int x :: t) h Q = Ev d 105 60 [l0, l1, l2, l3, l4] (.int (x * y) :: t) h Q := en_imul mm105 dX6_number_59
theorem i105_60 {d a l1 l2 l3 l4 t h Q} : Ev d 105 60 [some (.ref a), l1, l2, l3, l4] t h Q = Ev d 105 61 [some (.ref a), l1, l2, l3, l4] (.ref a :: t) h Q := en_aload_n mm105 dX6_number_60 rfl
theorem i105_61 {d a l1 l2 l3 l4 t h Q} : Ev d 105 61 [some (.ref a), l1, l2, l3, l4] t h Q = Ev d 105 62 [some (.ref a), l1, l2, l3, l4] (.ref a :: t) h Q := en_aload_n mm105 dX6_number_61 rfl
theorem i105_62 {d a l0 l1 l2 l3 l4 t h Q} : Ev d 105 62 [l0, l1, l2, l3, l4] (.ref a :: t) h Q = (hk h a = 7 ∧ Ev d 105 65 [l0, l1, l2, l3, l4] (hF h a 4 :: t) h Q) := en_getfield mm105 dX6_number_62 (by decide +kernel)
theorem i105_65 {d a l0 l1 l2 l3 l4 x0 x2 x3 h Q} : Ev (d + 1) 105 65 [l0, l1, l2, l3, l4] [x0, .ref a, x2, x3] h Q = (hk h a = 7 ∧ EvM d 98 [.ref a, x0] h (konN (d + 1) 105 68 [l0, l1, l2, l3, l4] [x2, x3] Q)) := en_virtualN mm105 dX6_number_65 (by decide +kernel : ml _ _ = some (2, 98)) (by decide) (rfl : mtab[98]? = some _) (by decide +kernel : npar _ = 1) rfl (by decide) rfl (of_decide_eq_true rfl) (len_cat (of_decide_eq_true rfl)) rfl rfl rfl
theorem i105_68 {d l0 l1 l2 l3 l4 t x y h Q} : Ev d 105 68 [l0, l1, l2, l3, l4] (.int y :: .int x :: t) h Q = Ev d 105 69 [l0, l1, l2, l3, l4] (.int (x + y) :: t) h Q := en_iadd mm105 dX6_number_68
theorem i105_69 {d l0 l1 l2 l3 l4 t h Q} : Ev d 105 69 [l0, l1, l2, l3, l4] t h Q = Ev d 105 71 [l0, l1, l2, l3, l4] (.int 48 :: t) h Q := en_bipush mm105 dX6_number_69 (by decide)
theorem i105_71 {d l0 l1 l2 l3 l4 t x y h Q} : Ev d 105 71 [l0, l1, l2, l3, l4] (.int y :: .int x :: t) h Q = Ev d 105 72 [l0, l1, l2, l3, l4] (.int (x - y) :: t) h Q := en_isub mm105 dX6_number_71
theorem i105_72 {d l0 l1 l2 l3 l4 x0 x1 h Q} : Ev (d + 1) 105 72 [l0, l1, l2, l3, l4] [x0, x1] h Q = EvM d 91 [x1, x0] h (konN (d + 1) 105 75 [l0, l1, l2, l3, l4] [] Q) := en_staticN mm105 dX6_number_72 (by decide +kernel : ml _ _ = some (0, 91)) (by decide) (rfl : mtab[91]? = some _) (by decide +kernel : npar _ = 2) (of_decide_eq_true rfl) (len_cat (of_decide_eq_true rfl)) rfl rfl rfl
theorem i105_75 {d l0 l1 l2 l3 l4 t x h Q} : Ev d 105 75 [l0, l1, l2, l3, l4] (.int x :: t) h Q = Ev d 105 77 [l0, l1, l2, nl l3, some (.int x)] t h Q := en_istore mm105 dX6_number_75 (of_decide_eq_true rfl) rfl
theorem i105_77 {d a l1 l2 l3 l4 t h Q} : Ev d 105 77 [some (.ref a), l1, l2, l3, l4] t h Q = Ev d 105 78 [some (.ref a), l1, l2, l3, l4] (.ref a :: t) h Q := en_aload_n mm105 dX6_number_77 rfl
theorem i105_78 {d a l0 l1 l2 l3 l4 t h Q} : Ev d 105 78 [l0, l1, l2, l3, l4] (.ref a :: t) h Q = Ev d 105 79 [l0, l1, l2, l3, l4] (.ref a :: .ref a :: t) h Q := en_dup mm105 dX6_number_78
theorem i105_79 {d a l0 l1 l2 l3 l4 t h Q} : Ev d 105 79 [l0, l1, l2, l3, l4] (.ref a :: t) h Q = (hk h a = 7 ∧ Ev d 105 82 [l0, l1, l2, l3, l4] (hF h a 4 :: t) h Q) := en_getfield mm105 dX6_number_79 (by decide +kernel)
theorem i105_82 {d l0 l1 l2 l3 l4 t h Q} : Ev d 105 82 [l0, l1, l2, l3, l4] t h Q = Ev d 105 83 [l0, l1, l2, l3, l4] (.int 1 :: t) h Q := en_iconst mm105 dX6_number_82 (by decide)
theorem i105_83 {d l0 l1 l2 l3 l4 t x y h Q} : Ev d 105 83 [l0, l1, l2, l3, l4] (.int y :: .int x :: t) h Q = Ev d 105 84 [l0, l1, l2, l3, l4] (.int (x + y) :: t) h Q := en_iadd mm105 dX6_number_83
theorem i105_84 {d a l0 l1 l2 l3 l4 t x h Q} : Ev d 105 84 [l0, l1, l2, l3, l4] (.int x :: .ref a :: t) h Q = (hk h a = 7 ∧ Ev d 105 87 [l0, l1, l2, l3, l4] t (wF h a 4 (.int x)) Q) := en_putfield mm105 dX6_number_84 (by decide +kernel) rfl
theorem i105_87 {d l0 l1 l2 l3 l4 t h Q} : Ev d 105 87 [l0, l1, l2, l3, l4] t h Q = Ev d 105 39 [l0, l1, l2, l3, l4] t h Q := en_goto mm105 dX6_number_87 rfl
theorem i105_90 {d l0 l1 l2 l3 t x h Q} : Ev d 105 90 [l0, l1, l2, l3, some (.int x)] t h Q = Ev d 105 92 [l0, l1, l2, l3, some (.int x)] (.int x :: t) h Q := en_iload mm105 dX6_number_90 rfl
theorem i105_92 {d l0 l2 l3 l4 t x h Q} : Ev d 105 92 [l0, some (.int x), l2, l3, l4] t h Q = Ev d 105 93 [l0, some (.int x), l2, l3, l4] (.int x :: t) h Q := en_iload_n mm105 dX6_number_92 rfl
theorem i105_93 {d l0 l1 l3 l4 t x h Q} : Ev d 105 93 [l0, l1, some (.int x), l3, l4] t h Q = Ev d 105 94 [l0, l1, some (.int x), l3, l4] (.int x :: t) h Q := en_iload_n mm105 dX6_number_93 rfl
theorem i105_94 {d l0 l1 l2 l3 l4 x0 x1 x2 h Q} : Ev (d + 1) 105 94 [l0, l1, l2, l3, l4] [x0, x1, x2] h Q = EvM d 90 [x2, x1, x0] h (konN (d + 1) 105 97 [l0, l1, l2, l3, l4] [] Q) := en_staticN mm105 dX6_number_94 (by decide +kernel : ml _ _ = some (0, 90)) (by decide) (rfl : mtab[90]? = some _) (by decide +kernel : npar _ = 3) (of_decide_eq_true rfl) (len_cat (of_decide_eq_true rfl)) rfl rfl rfl
theorem i105_97 {d l0 l1 l2 l3 l4 t x h Q} : Ev d 105 97 [l0, l1, l2, l3, l4] (.int x :: t) h Q = if x = 0 then Ev d 105 100 [l0, l1, l2, l3, l4] t h Q else Ev d 105 107 [l0, l1, l2, l3, l4] t h Q := en_if_ne mm105 dX6_number_97 rfl
theorem i105_100 {d a l1 l2 l3 l4 t h Q} : Ev d 105 100 [some (.ref a), l1, l2, l3, l4] t h Q = Ev d 105 101 [some (.ref a), l1, l2, l3, l4] (.ref a :: t) h Q := en_aload_n mm105 dX6_number_100 rfl
theorem i105_101 {d l0 l1 l2 l3 l4 t h Q} : Ev d 105 101 [l0, l1, l2, l3, l4] t h Q = Ev d 105 103 [l0, l1, l2, l3, l4] (.int (-3) :: t) h Q := en_bipush mm105 dX6_number_101 (by decide)
theorem i105_103 {d l0 l1 l2 l4 t x h Q} : Ev d 105 103 [l0, l1, l2, some (.int x), l4] t h Q = Ev d 105 104 [l0, l1, l2, some (.int x), l4] (.int x :: t) h Q := en_iload_n mm105 dX6_number_103 rfl
theorem i105_104 {d a l0 l1 l2 l3 l4 x0 x1 h Q} : Ev (d + 1) 105 104 [l0, l1, l2, l3, l4] [x0, x1, .ref a] h Q = (hk h a = 7 ∧ EvM d 101 [.ref a, x1, x0] h (konN (d + 1) 105 107 [l0, l1, l2, l3, l4] [] Q)) := en_virtualN mm105 dX6_number_104 (by decide +kernel : ml _ _ = some (2, 101)) (by decide) (rfl : mtab[101]? = some _) (by decide +kernel : npar _ = 2) rfl (by decide) rfl (of_decide_eq_true rfl) (len_cat (of_decide_eq_true rfl)) rfl rfl rfl
theorem i105_107 {d l0 l1 l2 l3 t x h Q} : Ev d 105 107 [l0, l1, l2, l3, some (.int x)] t h Q = Ev d 105 109 [l0, l1, l2, l3, some (.int x)] (.int x :: t) h Q := en_iload mm105 dX6_number_107 rfl
theorem i105_109 {d l0 l1 l2 l3 l4 x h Q} : Ev d 105 109 [l0, l1, l2, l3, l4] [.int x] h Q = Q (.inl (some (.int x))) h := en_ireturnI mm105 dX6_number_109 rfl
abbrev em106 : MI := (yX6_emit, cX6_emit, 2, none, 6, [])
theorem mm106 : mtab[106]? = some em106 := rfl
theorem in106 {d : Nat} {h : AH} {K : AO → AH → Prop} {v0 : Nat} {v1 : Int32} : EvM d 106 [(.ref v0), (.int v1)] h K = Ev d 106 0 [some (.ref v0), some (.int v1)] [] h K := evm_in mm106 (of_decide_eq_true rfl) rfl
theorem i106_0 {d a l1 t h Q} : Ev d 106 0 [some (.ref a), l1] t h Q = Ev d 106 1 [some (.ref a), l1] (.ref a :: t) h Q := en_aload_n mm106 dX6_emit_0 rfl
theorem i106_1 {d a l0 l1 h Q} : Ev (d + 1) 106 1 [l0, l1] [.ref a] h Q = (hk h a = 7 ∧ EvM d 100 [.ref a] h (konN (d + 1) 106 4 [l0, l1] [] Q)) := en_virtualN mm106 dX6_emit_1 (by decide +kernel : ml _ _ = some (2, 100)) (by decide) (rfl : mtab[100]? = some _) (by decide +kernel : npar _ = 0) rfl (by decide) rfl (of_decide_eq_true rfl) (len_cat (of_decide_eq_true rfl)) rfl rfl rfl
theorem i106_4 {d l0 l1 t x h Q} : Ev d 106 4 [l0, l1] (.int x :: t) h Q = if x = 0 then Ev d 106 7 [l0, l1] t h Q else Ev d 106 8 [l0, l1] t h Q := en_if_ne mm106 dX6_emit_4 rfl
theorem i106_7 {d l0 l1 h Q} : Ev d 106 7 [l0, l1] [] h Q = Q (.inl none) h := en_return mm106 dX6_emit_7 rfl
theorem i106_8 {d a l1 t h Q} : Ev d 106 8 [some (.ref a), l1] t h Q = Ev d 106 9 [some (.ref a), l1] (.ref a :: t) h Q := en_aload_n mm106 dX6_emit_8 rfl
theorem i106_9 {d a l0 l1 t h Q} : Ev d 106 9 [l0, l1] (.ref a :: t) h Q = (hk h a = 7 ∧ Ev d 106 12 [l0, l1] (hF h a 9 :: t) h Q) := en_getfield mm106 dX6_emit_9 (by decide +kernel)
theorem i106_12 {d l0 l1 t h Q} : Ev d 106 12 [l0, l1] t h Q = Ev d 106 15 [l0, l1] (.int 251 :: t) h Q := en_sipush mm106 dX6_emit_12 (by decide)
theorem i106_15 {d a l1 t h Q} : Ev d 106 15 [some (.ref a), l1] t h Q = Ev d 106 16 [some (.ref a), l1] (.ref a :: t) h Q := en_aload_n mm106 dX6_emit_15 rfl
theorem i106_16 {d a l0 l1 t h Q} : Ev d 106 16 [l0, l1] (.ref a :: t) h Q = (hk h a = 7 ∧ Ev d 106 19 [l0, l1] (hF h a 9 :: t) h Q) := en_getfield mm106 dX6_emit_16 (by decide +kernel)
theorem i106_19 {d l0 l1 t h Q} : Ev d 106 19 [l0, l1] t h Q = Ev d 106 21 [l0, l1] (.int 8 :: t) h Q := en_bipush mm106 dX6_emit_19 (by decide)
theorem i106_21 {d a j l0 l1 t h Q} : Ev d 106 21 [l0, l1] (.int j :: .ref a :: t) h Q = (hk h a = 10 ∧ inb j (hl h a) ∧ Ev d 106 22 [l0, l1] (.int (hA h a j.toNatClampNeg) :: t) h Q) := en_iaload mm106 dX6_emit_21
theorem i106_22 {d l0 l1 t x y h Q} : Ev d 106 22 [l0, l1] (.int y :: .int x :: t) h Q = Ev d 106 23 [l0, l1] (.int (x + y) :: t) h Q := en_iadd mm106 dX6_emit_22
theorem i106_23 {d l0 t x h Q} : Ev d 106 23 [l0, some (.int x)] t h Q = Ev d 106 24 [l0, some (.int x)] (.int x :: t) h Q := en_iload_n mm106 dX6_emit_23 rfl
theorem i106_24 {d a j l0 l1 t x h Q} : Ev d 106 24 [l0, l1] (.int x :: .int j :: .ref a :: t) h Q = (hk h a = 10 ∧ inb j (hl h a) ∧ Ev d 106 25 [l0, l1] t (wA h a (upd (hA h a) j.toNatClampNeg x)) Q) := en_iastore mm106 dX6_emit_24
theorem i106_25 {d a l1 t h Q} : Ev d 106 25 [some (.ref a), l1] t h Q = Ev d 106 26 [some (.ref a), l1] (.ref a :: t) h Q := en_aload_n mm106 dX6_emit_25 rfl
theorem i106_26 {d a l0 l1 t h Q} : Ev d 106 26 [l0, l1] (.ref a :: t) h Q = (hk h a = 7 ∧ Ev d 106 29 [l0, l1] (hF h a 9 :: t) h Q) := en_getfield mm106 dX6_emit_26 (by decide +kernel)
theorem i106_29 {d l0 l1 t h Q} : Ev d 106 29 [l0, l1] t h Q = Ev d 106 31 [l0, l1] (.int 8 :: t) h Q := en_bipush mm106 dX6_emit_29 (by decide)
theorem i106_31 {d a l0 l1 t x h Q} : Ev d 106 31 [l0, l1] (.int x :: .ref a :: t) h Q = Ev d 106 32 [l0, l1] (.int x :: .ref a :: .int x :: .ref a :: t) h Q := en_dup2 mm106 dX6_emit_31
theorem i106_32 {d a j l0 l1 t h Q} : Ev d 106 32 [l0, l1] (.int j :: .ref a :: t) h Q = (hk h a = 10 ∧ inb j (hl h a) ∧ Ev d 106 33 [l0, l1] (.int (hA h a j.toNatClampNeg) :: t) h Q) := en_iaload mm106 dX6_emit_32
theorem i106_33 {d l0 l1 t h Q} : Ev d 106 33 [l0, l1] t h Q = Ev d 106 34 [l0, l1] (.int 1 :: t) h Q := en_iconst mm106 dX6_emit_33 (by decide)
theorem i106_34 {d l0 l1 t x y h Q} : Ev d 106 34 [l0, l1] (.int y :: .int x :: t) h Q = Ev d 106 35 [l0, l1] (.int (x + y) :: t) h Q := en_iadd mm106 dX6_emit_34
theorem i106_35 {d a j l0 l1 t x h Q} : Ev d 106 35 [l0, l1] (.int x :: .int j :: .ref a :: t) h Q = (hk h a = 10 ∧ inb j (hl h a) ∧ Ev d 106 36 [l0, l1] t (wA h a (upd (hA h a) j.toNatClampNeg x)) Q) := en_iastore mm106 dX6_emit_35
theorem i106_36 {d l0 l1 h Q} : Ev d 106 36 [l0, l1] [] h Q = Q (.inl none) h := en_return mm106 dX6_emit_36 rfl
abbrev em107 : MI := (yX6_factor, cX6_factor, 4, none, 6, [])
theorem mm107 : mtab[107]? = some em107 := rfl
theorem in107 {d : Nat} {h : AH} {K : AO → AH → Prop} {v0 : Nat} : EvM d 107 [(.ref v0)] h K = Ev d 107 0 [some (.ref v0), none, none, none] [] h K := evm_in mm107 (of_decide_eq_true rfl) rfl
theorem i107_0 {d a l1 l2 l3 t h Q} : Ev d 107 0 [some (.ref a), l1, l2, l3] t h Q = Ev d 107 1 [some (.ref a), l1, l2, l3] (.ref a :: t) h Q := en_aload_n mm107 dX6_factor_0 rfl
theorem i107_1 {d a l0 l1 l2 l3 h Q} : Ev (d + 1) 107 1 [l0, l1, l2, l3] [.ref a] h Q = (hk h a = 7 ∧ EvM d 100 [.ref a] h (konN (d + 1) 107 4 [l0, l1, l2, l3] [] Q)) := en_virtualN mm107 dX6_factor_1 (by decide +kernel : ml _ _ = some (2, 100)) (by decide) (rfl : mtab[100]? = some _) (by decide +kernel : npar _ = 0) rfl (by decide) rfl (of_decide_eq_true rfl) (len_cat (of_decide_eq_true rfl)) rfl rfl rfl
theorem i107_4 {d l0 l1 l2 l3 t x h Q} : Ev d 107 4 [l0, l1, l2, l3] (.int x :: t) h Q = if x = 0 then Ev d 107 7 [l0, l1, l2, l3] t h Q else Ev d 107 8 [l0, l1, l2, l3] t h Q := en_if_ne mm107 dX6_factor_4 rfl
theorem i107_7 {d l0 l1 l2 l3 h Q} : Ev d 107 7 [l0, l1, l2, l3] [] h Q = Q (.inl none) h := en_return mm107 dX6_factor_7 rfl
theorem i107_8 {d a l1 l2 l3 t h Q} : Ev d 107 8 [some (.ref a), l1, l2, l3] t h Q = Ev d 107 9 [some (.ref a), l1, l2, l3] (.ref a :: t) h Q := en_aload_n mm107 dX6_factor_8 rfl
theorem i107_9 {d a l0 l1 l2 l3 h Q} : Ev (d + 1) 107 9 [l0, l1, l2, l3] [.ref a] h Q = (hk h a = 7 ∧ EvM d 99 [.ref a] h (konN (d + 1) 107 12 [l0, l1, l2, l3] [] Q)) := en_virtualN mm107 dX6_factor_9 (by decide +kernel : ml _ _ = some (2, 99)) (by decide) (rfl : mtab[99]? = some _) (by decide +kernel : npar _ = 0) rfl (by decide) rfl (of_decide_eq_true rfl) (len_cat (of_decide_eq_true rfl)) rfl rfl rfl
theorem i107_12 {d l0 l1 l2 l3 t x h Q} : Ev d 107 12 [l0, l1, l2, l3] (.int x :: t) h Q = Ev d 107 13 [nl l0, some (.int x), l2, l3] t h Q := en_istore_n mm107 dX6_factor_12 (of_decide_eq_true rfl) rfl
theorem i107_13 {d l0 l2 l3 t x h Q} : Ev d 107 13 [l0, some (.int x), l2, l3] t h Q = Ev d 107 14 [l0, some (.int x), l2, l3] (.int x :: t) h Q := en_iload_n mm107 dX6_factor_13 rfl
theorem i107_14 {d l0 l1 l2 l3 t h Q} : Ev d 107 14 [l0, l1, l2, l3] t h Q = Ev d 107 16 [l0, l1, l2, l3] (.int 40 :: t) h Q := en_bipush mm107 dX6_factor_14 (by decide)
theorem i107_16 {d l0 l1 l2 l3 t x y h Q} : Ev d 107 16 [l0, l1, l2, l3] (.int y :: .int x :: t) h Q = if x = y then Ev d 107 19 [l0, l1, l2, l3] t h Q else Ev d 107 78 [l0, l1, l2, l3] t h Q := en_ic_ne mm107 dX6_factor_16 rfl
theorem i107_19 {d a l1 l2 l3 t h Q} : Ev d 107 19 [some (.ref a), l1, l2, l3] t h Q = Ev d 107 20 [some (.ref a), l1, l2, l3] (.ref a :: t) h Q := en_aload_n mm107 dX6_factor_19 rfl
theorem i107_20 {d a l0 l1 l2 l3 t h Q} : Ev d 107 20 [l0, l1, l2, l3] (.ref a :: t) h Q = (hk h a = 7 ∧ Ev d 107 23 [l0, l1, l2, l3] (hF h a 13 :: t) h Q) := en_getfield mm107 dX6_factor_20 (by decide +kernel)
theorem i107_23 {d l0 l1 l2 l3 t h Q} : Ev d 107 23 [l0, l1, l2, l3] t h Q = Ev d 107 24 [l0, l1, l2, l3] (.int 4 :: t) h Q := en_iconst mm107 dX6_factor_23 (by decide)
theorem i107_24 {d l0 l1 l2 l3 t x y h Q} : Ev d 107 24 [l0, l1, l2, l3] (.int y :: .int x :: t) h Q = if x = y then Ev d 107 27 [l0, l1, l2, l3] t h Q else Ev d 107 37 [l0, l1, l2, l3] t h Q := en_ic_ne mm107 dX6_factor_24 rfl
theorem i107_27 {d a l1 l2 l3 t h Q} : Ev d 107 27 [some (.ref a), l1, l2, l3] t h Q = Ev d 107 28 [some (.ref a), l1, l2, l3] (.ref a :: t) h Q := en_aload_n mm107 dX6_factor_27 rfl
theorem i107_28 {d l0 l1 l2 l3 t h Q} : Ev d 107 28 [l0, l1, l2, l3] t h Q = Ev d 107 30 [l0, l1, l2, l3] (.int (-5) :: t) h Q := en_bipush mm107 dX6_factor_28 (by decide)
theorem i107_30 {d a l1 l2 l3 t h Q} : Ev d 107 30 [some (.ref a), l1, l2, l3] t h Q = Ev d 107 31 [some (.ref a), l1, l2, l3] (.ref a :: t) h Q := en_aload_n mm107 dX6_factor_30 rfl
theorem i107_31 {d a l0 l1 l2 l3 t h Q} : Ev d 107 31 [l0, l1, l2, l3] (.ref a :: t) h Q = (hk h a = 7 ∧ Ev d 107 34 [l0, l1, l2, l3] (hF h a 4 :: t) h Q) := en_getfield mm107 dX6_factor_31 (by decide +kernel)
theorem i107_34 {d a l0 l1 l2 l3 x0 x1 h Q} : Ev (d + 1) 107 34 [l0, l1, l2, l3] [x0, x1, .ref a] h Q = (hk h a = 7 ∧ EvM d 101 [.ref a, x1, x0] h (konN (d + 1) 107 37 [l0, l1, l2, l3] [] Q)) := en_virtualN mm107 dX6_factor_34 (by decide +kernel : ml _ _ = some (2, 101)) (by decide) (rfl : mtab[101]? = some _) (by decide +kernel : npar _ = 2) rfl (by decide) rfl (of_decide_eq_true rfl) (len_cat (of_decide_eq_true rfl)) rfl rfl rfl
theorem i107_37 {d a l1 l2 l3 t h Q} : Ev d 107 37 [some (.ref a), l1, l2, l3] t h Q = Ev d 107 38 [some (.ref a), l1, l2, l3] (.ref a :: t) h Q := en_aload_n mm107 dX6_factor_37 rfl
theorem i107_38 {d a l0 l1 l2 l3 t h Q} : Ev d 107 38 [l0, l1, l2, l3] (.ref a :: t) h Q = Ev d 107 39 [l0, l1, l2, l3] (.ref a :: .ref a :: t) h Q := en_dup mm107 dX6_factor_38
theorem i107_39 {d a l0 l1 l2 l3 t h Q} : Ev d 107 39 [l0, l1, l2, l3] (.ref a :: t) h Q = (hk h a = 7 ∧ Ev d 107 42 [l0, l1, l2, l3] (hF h a 4 :: t) h Q) := en_getfield mm107 dX6_factor_39 (by decide +kernel)
theorem i107_42 {d l0 l1 l2 l3 t h Q} : Ev d 107 42 [l0, l1, l2, l3] t h Q = Ev d 107 43 [l0, l1, l2, l3] (.int 1 :: t) h Q := en_iconst mm107 dX6_factor_42 (by decide)
theorem i107_43 {d l0 l1 l2 l3 t x y h Q} : Ev d 107 43 [l0, l1, l2, l3] (.int y :: .int x :: t) h Q = Ev d 107 44 [l0, l1, l2, l3] (.int (x + y) :: t) h Q := en_iadd mm107 dX6_factor_43
theorem i107_44 {d a l0 l1 l2 l3 t x h Q} : Ev d 107 44 [l0, l1, l2, l3] (.int x :: .ref a :: t) h Q = (hk h a = 7 ∧ Ev d 107 47 [l0, l1, l2, l3] t (wF h a 4 (.int x)) Q) := en_putfield mm107 dX6_factor_44 (by decide +kernel) rfl
theorem i107_47 {d a l1 l2 l3 t h Q} : Ev d 107 47 [some (.ref a), l1, l2, l3] t h Q = Ev d 107 48 [some (.ref a), l1, l2, l3] (.ref a :: t) h Q := en_aload_n mm107 dX6_factor_47 rfl
theorem i107_48 {d a l0 l1 l2 l3 t h Q} : Ev d 107 48 [l0, l1, l2, l3] (.ref a :: t) h Q = Ev d 107 49 [l0, l1, l2, l3] (.ref a :: .ref a :: t) h Q := en_dup mm107 dX6_factor_48
theorem i107_49 {d a l0 l1 l2 l3 t h Q} : Ev d 107 49 [l0, l1, l2, l3] (.ref a :: t) h Q = (hk h a = 7 ∧ Ev d 107 52 [l0, l1, l2, l3] (hF h a 13 :: t) h Q) := en_getfield mm107 dX6_factor_49 (by decide +kernel)
theorem i107_52 {d l0 l1 l2 l3 t h Q} : Ev d 107 52 [l0, l1, l2, l3] t h Q = Ev d 107 53 [l0, l1, l2, l3] (.int 1 :: t) h Q := en_iconst mm107 dX6_factor_52 (by decide)
theorem i107_53 {d l0 l1 l2 l3 t x y h Q} : Ev d 107 53 [l0, l1, l2, l3] (.int y :: .int x :: t) h Q = Ev d 107 54 [l0, l1, l2, l3] (.int (x + y) :: t) h Q := en_iadd mm107 dX6_factor_53
theorem i107_54 {d a l0 l1 l2 l3 t x h Q} : Ev d 107 54 [l0, l1, l2, l3] (.int x :: .ref a :: t) h Q = (hk h a = 7 ∧ Ev d 107 57 [l0, l1, l2, l3] t (wF h a 13 (.int x)) Q) := en_putfield mm107 dX6_factor_54 (by decide +kernel) rfl
theorem i107_57 {d a l1 l2 l3 t h Q} : Ev d 107 57 [some (.ref a), l1, l2, l3] t h Q = Ev d 107 58 [some (.ref a), l1, l2, l3] (.ref a :: t) h Q := en_aload_n mm107 dX6_factor_57 rfl
theorem i107_58 {d a l0 l1 l2 l3 h Q} : Ev (d + 1) 107 58 [l0, l1, l2, l3] [.ref a] h Q = (hk h a = 7 ∧ EvM d 109 [.ref a] h (konN (d + 1) 107 61 [l0, l1, l2, l3] [] Q)) := en_virtualN mm107 dX6_factor_58 (by decide +kernel : ml _ _ = some (2, 109)) (by decide) (rfl : mtab[109]? = some _) (by decide +kernel : npar _ = 0) rfl (by decide) rfl (of_decide_eq_true rfl) (len_cat (of_decide_eq_true rfl)) rfl rfl rfl
theorem i107_61 {d a l1 l2 l3 t h Q} : Ev d 107 61 [some (.ref a), l1, l2, l3] t h Q = Ev d 107 62 [some (.ref a), l1, l2, l3] (.ref a :: t) h Q := en_aload_n mm107 dX6_factor_61 rfl
theorem i107_62 {d l0 l1 l2 l3 t h Q} : Ev d 107 62 [l0, l1, l2, l3] t h Q = Ev d 107 64 [l0, l1, l2, l3] (.int 41 :: t) h Q := en_bipush mm107 dX6_factor_62 (by decide)
theorem i107_64 {d a l0 l1 l2 l3 x0 h Q} : Ev (d + 1) 107 64 [l0, l1, l2, l3] [x0, .ref a] h Q = (hk h a = 7 ∧ EvM d 104 [.ref a, x0] h (konN (d + 1) 107 67 [l0, l1, l2, l3] [] Q)) := en_virtualN mm107 dX6_factor_64 (by decide +kernel : ml _ _ = some (2, 104)) (by decide) (rfl : mtab[104]? = some _) (by decide +kernel : npar _ = 1) rfl (by decide) rfl (of_decide_eq_true rfl) (len_cat (of_decide_eq_true rfl)) rfl rfl rfl
theorem i107_67 {d a l1 l2 l3 t h Q} : Ev d 107 67 [some (.ref a), l1, l2, l3] t h Q = Ev d 107 68 [some (.ref a), l1, l2, l3] (.ref a :: t) h Q := en_aload_n mm107 dX6_factor_67 rfl
theorem i107_68 {d a l0 l1 l2 l3 t h Q} : Ev d 107 68 [l0, l1, l2, l3] (.ref a :: t) h Q = Ev d 107 69 [l0, l1, l2, l3] (.ref a :: .ref a :: t) h Q := en_dup mm107 dX6_factor_68
theorem i107_69 {d a l0 l1 l2 l3 t h Q} : Ev d 107 69 [l0, l1, l2, l3] (.ref a :: t) h Q = (hk h a = 7 ∧ Ev d 107 72 [l0, l1, l2, l3] (hF h a 13 :: t) h Q) := en_getfield mm107 dX6_factor_69 (by decide +kernel)
theorem i107_72 {d l0 l1 l2 l3 t h Q} : Ev d 107 72 [l0, l1, l2, l3] t h Q = Ev d 107 73 [l0, l1, l2, l3] (.int 1 :: t) h Q := en_iconst mm107 dX6_factor_72 (by decide)
theorem i107_73 {d l0 l1 l2 l3 t x y h Q} : Ev d 107 73 [l0, l1, l2, l3] (.int y :: .int x :: t) h Q = Ev d 107 74 [l0, l1, l2, l3] (.int (x - y) :: t) h Q := en_isub mm107 dX6_factor_73
theorem i107_74 {d a l0 l1 l2 l3 t x h Q} : Ev d 107 74 [l0, l1, l2, l3] (.int x :: .ref a :: t) h Q = (hk h a = 7 ∧ Ev d 107 77 [l0, l1, l2, l3] t (wF h a 13 (.int x)) Q) := en_putfield mm107 dX6_factor_74 (by decide +kernel) rfl
theorem i107_77 {d l0 l1 l2 l3 h Q} : Ev d 107 77 [l0, l1, l2, l3] [] h Q = Q (.inl none) h := en_return mm107 dX6_factor_77 rfl
theorem i107_78 {d l0 l2 l3 t x h Q} : Ev d 107 78 [l0, some (.int x), l2, l3] t h Q = Ev d 107 79 [l0, some (.int x), l2, l3] (.int x :: t) h Q := en_iload_n mm107 dX6_factor_78 rfl
theorem i107_79 {d l0 l1 l2 l3 x0 h Q} : Ev (d + 1) 107 79 [l0, l1, l2, l3] [x0] h Q = EvM d 102 [x0] h (konN (d + 1) 107 82 [l0, l1, l2, l3] [] Q) := en_staticN mm107 dX6_factor_79 (by decide +kernel : ml _ _ = some (0, 102)) (by decide) (rfl : mtab[102]? = some _) (by decide +kernel : npar _ = 1) (of_decide_eq_true rfl) (len_cat (of_decide_eq_true rfl)) rfl rfl rfl
theorem i107_82 {d l0 l1 l2 l3 t x h Q} : Ev d 107 82 [l0, l1, l2, l3] (.int x :: t) h Q = if x = 0 then Ev d 107 89 [l0, l1, l2, l3] t h Q else Ev d 107 85 [l0, l1, l2, l3] t h Q := en_if_eq mm107 dX6_factor_82 rfl
theorem i107_85 {d l0 l1 l2 l3 t h Q} : Ev d 107 85 [l0, l1, l2, l3] t h Q = Ev d 107 86 [l0, l1, l2, l3] (.int (-1) :: t) h Q := en_iconst mm107 dX6_factor_85 (by decide)
theorem i107_86 {d l0 l1 l2 l3 t h Q} : Ev d 107 86 [l0, l1, l2, l3] t h Q = Ev d 107 129 [l0, l1, l2, l3] t h Q := en_goto mm107 dX6_factor_86 rfl
theorem i107_89 {d a l1 l2 l3 t h Q} : Ev d 107 89 [some (.ref a), l1, l2, l3] t h Q = Ev d 107 90 [some (.ref a), l1, l2, l3] (.ref a :: t) h Q := en_aload_n mm107 dX6_factor_89 rfl
theorem i107_90 {d l0 l1 l2 l3 t h Q} : Ev d 107 90 [l0, l1, l2, l3] t h Q = Ev d 107 92 [l0, l1, l2, l3] (litV 4 :: t) h Q := en_ldcS mm107 dX6_factor_90 (by decide +kernel) (by decide +kernel)
theorem i107_92 {d a l0 l1 l2 l3 x0 h Q} : Ev (d + 1) 107 92 [l0, l1, l2, l3] [x0, .ref a] h Q = (hk h a = 7 ∧ EvM d 103 [.ref a, x0] h (konN (d + 1) 107 95 [l0, l1, l2, l3] [] Q)) := en_virtualN mm107 dX6_factor_92 (by decide +kernel : ml _ _ = some (2, 103)) (by decide) (rfl : mtab[103]? = some _) (by decide +kernel : npar _ = 1) rfl (by decide) rfl (of_decide_eq_true rfl) (len_cat (of_decide_eq_true rfl)) rfl rfl rfl
theorem i107_95 {d l0 l1 l2 l3 t x h Q} : Ev d 107 95 [l0, l1, l2, l3] (.int x :: t) h Q = if x = 0 then Ev d 107 102 [l0, l1, l2, l3] t h Q else Ev d 107 98 [l0, l1, l2, l3] t h Q := en_if_eq mm107 dX6_factor_95 rfl
theorem i107_98 {d l0 l1 l2 l3 t h Q} : Ev d 107 98 [l0, l1, l2, l3] t h Q = Ev d 107 99 [l0, l1, l2, l3] (.int 0 :: t) h Q := en_iconst mm107 dX6_factor_98 (by decide)
theorem i107_99 {d l0 l1 l2 l3 t h Q} : Ev d 107 99 [l0, l1, l2, l3] t h Q = Ev d 107 129 [l0, l1, l2, l3] t h Q := en_goto mm107 dX6_factor_99 rfl
theorem i107_102 {d a l1 l2 l3 t h Q} : Ev d 107 102 [some (.ref a), l1, l2, l3] t h Q = Ev d 107 103 [some (.ref a), l1, l2, l3] (.ref a :: t) h Q := en_aload_n mm107 dX6_factor_102 rfl
theorem i107_103 {d l0 l1 l2 l3 t h Q} : Ev d 107 103 [l0, l1, l2, l3] t h Q = Ev d 107 105 [l0, l1, l2, l3] (litV 1 :: t) h Q := en_ldcS mm107 dX6_factor_103 (by decide +kernel) (by decide +kernel)
theorem i107_105 {d a l0 l1 l2 l3 x0 h Q} : Ev (d + 1) 107 105 [l0, l1, l2, l3] [x0, .ref a] h Q = (hk h a = 7 ∧ EvM d 103 [.ref a, x0] h (konN (d + 1) 107 108 [l0, l1, l2, l3] [] Q)) := en_virtualN mm107 dX6_factor_105 (by decide +kernel : ml _ _ = some (2, 103)) (by decide) (rfl : mtab[103]? = some _) (by decide +kernel : npar _ = 1) rfl (by decide) rfl (of_decide_eq_true rfl) (len_cat (of_decide_eq_true rfl)) rfl rfl rfl
theorem i107_108 {d l0 l1 l2 l3 t x h Q} : Ev d 107 108 [l0, l1, l2, l3] (.int x :: t) h Q = if x = 0 then Ev d 107 115 [l0, l1, l2, l3] t h Q else Ev d 107 111 [l0, l1, l2, l3] t h Q := en_if_eq mm107 dX6_factor_108 rfl
theorem i107_111 {d l0 l1 l2 l3 t h Q} : Ev d 107 111 [l0, l1, l2, l3] t h Q = Ev d 107 112 [l0, l1, l2, l3] (.int 1 :: t) h Q := en_iconst mm107 dX6_factor_111 (by decide)
theorem i107_112 {d l0 l1 l2 l3 t h Q} : Ev d 107 112 [l0, l1, l2, l3] t h Q = Ev d 107 129 [l0, l1, l2, l3] t h Q := en_goto mm107 dX6_factor_112 rfl
theorem i107_115 {d a l1 l2 l3 t h Q} : Ev d 107 115 [some (.ref a), l1, l2, l3] t h Q = Ev d 107 116 [some (.ref a), l1, l2, l3] (.ref a :: t) h Q := en_aload_n mm107 dX6_factor_115 rfl
theorem i107_116 {d l0 l1 l2 l3 t h Q} : Ev d 107 116 [l0, l1, l2, l3] t h Q = Ev d 107 118 [l0, l1, l2, l3] (litV 5 :: t) h Q := en_ldcS mm107 dX6_factor_116 (by decide +kernel) (by decide +kernel)
theorem i107_118 {d a l0 l1 l2 l3 x0 h Q} : Ev (d + 1) 107 118 [l0, l1, l2, l3] [x0, .ref a] h Q = (hk h a = 7 ∧ EvM d 103 [.ref a, x0] h (konN (d + 1) 107 121 [l0, l1, l2, l3] [] Q)) := en_virtualN mm107 dX6_factor_118 (by decide +kernel : ml _ _ = some (2, 103)) (by decide) (rfl : mtab[103]? = some _) (by decide +kernel : npar _ = 1) rfl (by decide) rfl (of_decide_eq_true rfl) (len_cat (of_decide_eq_true rfl)) rfl rfl rfl
theorem i107_121 {d l0 l1 l2 l3 t x h Q} : Ev d 107 121 [l0, l1, l2, l3] (.int x :: t) h Q = if x = 0 then Ev d 107 128 [l0, l1, l2, l3] t h Q else Ev d 107 124 [l0, l1, l2, l3] t h Q := en_if_eq mm107 dX6_factor_121 rfl
theorem i107_124 {d l0 l1 l2 l3 t h Q} : Ev d 107 124 [l0, l1, l2, l3] t h Q = Ev d 107 125 [l0, l1, l2, l3] (.int 2 :: t) h Q := en_iconst mm107 dX6_factor_124 (by decide)
theorem i107_125 {d l0 l1 l2 l3 t h Q} : Ev d 107 125 [l0, l1, l2, l3] t h Q = Ev d 107 129 [l0, l1, l2, l3] t h Q := en_goto mm107 dX6_factor_125 rfl
theorem i107_128 {d l0 l1 l2 l3 t h Q} : Ev d 107 128 [l0, l1, l2, l3] t h Q = Ev d 107 129 [l0, l1, l2, l3] (.int (-1) :: t) h Q := en_iconst mm107 dX6_factor_128 (by decide)
theorem i107_129 {d l0 l1 l2 l3 t x h Q} : Ev d 107 129 [l0, l1, l2, l3] (.int x :: t) h Q = Ev d 107 130 [l0, nl l1, some (.int x), l3] t h Q := en_istore_n mm107 dX6_factor_129 (of_decide_eq_true rfl) rfl
theorem i107_130 {d l0 l1 l3 t x h Q} : Ev d 107 130 [l0, l1, some (.int x), l3] t h Q = Ev d 107 131 [l0, l1, some (.int x), l3] (.int x :: t) h Q := en_iload_n mm107 dX6_factor_130 rfl
theorem i107_131 {d l0 l1 l2 l3 t x h Q} : Ev d 107 131 [l0, l1, l2, l3] (.int x :: t) h Q = if 0 ≤ x then Ev d 107 145 [l0, l1, l2, l3] t h Q else Ev d 107 134 [l0, l1, l2, l3] t h Q := en_if_ge mm107 dX6_factor_131 rfl
theorem i107_134 {d a l1 l2 l3 t h Q} : Ev d 107 134 [some (.ref a), l1, l2, l3] t h Q = Ev d 107 135 [some (.ref a), l1, l2, l3] (.ref a :: t) h Q := en_aload_n mm107 dX6_factor_134 rfl
theorem i107_135 {d l0 l1 l2 l3 t h Q} : Ev d 107 135 [l0, l1, l2, l3] t h Q = Ev d 107 136 [l0, l1, l2, l3] (.int 0 :: t) h Q := en_iconst mm107 dX6_factor_135 (by decide)
theorem i107_136 {d l0 l1 l2 l3 t h Q} : Ev d 107 136 [l0, l1, l2, l3] t h Q = Ev d 107 139 [l0, l1, l2, l3] (.int 9999 :: t) h Q := en_sipush mm107 dX6_factor_136 (by decide)
theorem i107_139 {d a l0 l1 l2 l3 x0 x1 h Q} : Ev (d + 1) 107 139 [l0, l1, l2, l3] [x0, x1, .ref a] h Q = (hk h a = 7 ∧ EvM d 105 [.ref a, x1, x0] h (konN (d + 1) 107 142 [l0, l1, l2, l3] [] Q)) := en_virtualN mm107 dX6_factor_139 (by decide +kernel : ml _ _ = some (2, 105)) (by decide) (rfl : mtab[105]? = some _) (by decide +kernel : npar _ = 2) rfl (by decide) rfl (of_decide_eq_true rfl) (len_cat (of_decide_eq_true rfl)) rfl rfl rfl
theorem i107_142 {d l0 l1 l2 l3 t h Q} : Ev d 107 142 [l0, l1, l2, l3] t h Q = Ev d 107 146 [l0, l1, l2, l3] t h Q := en_goto mm107 dX6_factor_142 rfl
theorem i107_145 {d l0 l1 l3 t x h Q} : Ev d 107 145 [l0, l1, some (.int x), l3] t h Q = Ev d 107 146 [l0, l1, some (.int x), l3] (.int x :: t) h Q := en_iload_n mm107 dX6_factor_145 rfl
theorem i107_146 {d l0 l1 l2 l3 t x h Q} : Ev d 107 146 [l0, l1, l2, l3] (.int x :: t) h Q = Ev d 107 147 [l0, l1, nl l2, some (.int x)] t h Q := en_istore_n mm107 dX6_factor_146 (of_decide_eq_true rfl) rfl
theorem i107_147 {d a l1 l2 l3 t h Q} : Ev d 107 147 [some (.ref a), l1, l2, l3] t h Q = Ev d 107 148 [some (.ref a), l1, l2, l3] (.ref a :: t) h Q := en_aload_n mm107 dX6_factor_147 rfl
theorem i107_148 {d l0 l1 l3 t x h Q} : Ev d 107 148 [l0, l1, some (.int x), l3] t h Q = Ev d 107 149 [l0, l1, some (.int x), l3] (.int x :: t) h Q := en_iload_n mm107 dX6_factor_148 rfl
theorem i107_149 {d l0 l1 l2 l3 t x h Q} : Ev d 107 149 [l0, l1, l2, l3] (.int x :: t) h Q = if 0 ≤ x then Ev d 107 156 [l0, l1, l2, l3] t h Q else Ev d 107 152 [l0, l1, l2, l3] t h Q := en_if_ge mm107 dX6_factor_149 rfl
theorem i107_152 {d l0 l1 l2 l3 t h Q} : Ev d 107 152 [l0, l1, l2, l3] t h Q = Ev d 107 153 [l0, l1, l2, l3] (.int 0 :: t) h Q := en_iconst mm107 dX6_factor_152 (by decide)
theorem i107_153 {d l0 l1 l2 l3 t h Q} : Ev d 107 153 [l0, l1, l2, l3] t h Q = Ev d 107 157 [l0, l1, l2, l3] t h Q := en_goto mm107 dX6_factor_153 rfl
theorem i107_156 {d l0 l1 l2 l3 t h Q} : Ev d 107 156 [l0, l1, l2, l3] t h Q = Ev d 107 157 [l0, l1, l2, l3] (.int 1 :: t) h Q := en_iconst mm107 dX6_factor_156 (by decide)
theorem i107_157 {d a l0 l1 l2 l3 x0 h Q} : Ev (d + 1) 107 157 [l0, l1, l2, l3] [x0, .ref a] h Q = (hk h a = 7 ∧ EvM d 106 [.ref a, x0] h (konN (d + 1) 107 160 [l0, l1, l2, l3] [] Q)) := en_virtualN mm107 dX6_factor_157 (by decide +kernel : ml _ _ = some (2, 106)) (by decide) (rfl : mtab[106]? = some _) (by decide +kernel : npar _ = 1) rfl (by decide) rfl (of_decide_eq_true rfl) (len_cat (of_decide_eq_true rfl)) rfl rfl rfl
theorem i107_160 {d a l1 l2 l3 t h Q} : Ev d 107 160 [some (.ref a), l1, l2, l3] t h Q = Ev d 107 161 [some (.ref a), l1, l2, l3] (.ref a :: t) h Q := en_aload_n mm107 dX6_factor_160 rfl
theorem i107_161 {d l0 l1 l2 t x h Q} : Ev d 107 161 [l0, l1, l2, some (.int x)] t h Q = Ev d 107 162 [l0, l1, l2, some (.int x)] (.int x :: t) h Q := en_iload_n mm107 dX6_factor_161 rfl
theorem i107_162 {d a l0 l1 l2 l3 x0 h Q} : Ev (d + 1) 107 162 [l0, l1, l2, l3] [x0, .ref a] h Q = (hk h a = 7 ∧ EvM d 106 [.ref a, x0] h (konN (d + 1) 107 165 [l0, l1, l2, l3] [] Q)) := en_virtualN mm107 dX6_factor_162 (by decide +kernel : ml _ _ = some (2, 106)) (by decide) (rfl : mtab[106]? = some _) (by decide +kernel : npar _ = 1) rfl (by decide) rfl (of_decide_eq_true rfl) (len_cat (of_decide_eq_true rfl)) rfl rfl rfl
theorem i107_165 {d l0 l1 l2 l3 h Q} : Ev d 107 165 [l0, l1, l2, l3] [] h Q = Q (.inl none) h := en_return mm107 dX6_factor_165 rfl
abbrev em108 : MI := (yX6_term, cX6_term, 2, none, 6, [])
theorem mm108 : mtab[108]? = some em108 := rfl
theorem in108 {d : Nat} {h : AH} {K : AO → AH → Prop} {v0 : Nat} : EvM d 108 [(.ref v0)] h K = Ev d 108 0 [some (.ref v0), none] [] h K := evm_in mm108 (of_decide_eq_true rfl) rfl
theorem i108_0 {d a l1 t h Q} : Ev d 108 0 [some (.ref a), l1] t h Q = Ev d 108 1 [some (.ref a), l1] (.ref a :: t) h Q := en_aload_n mm108 dX6_term_0 rfl
theorem i108_1 {d a l0 l1 h Q} : Ev (d + 1) 108 1 [l0, l1] [.ref a] h Q = (hk h a = 7 ∧ EvM d 107 [.ref a] h (konN (d + 1) 108 4 [l0, l1] [] Q)) := en_virtualN mm108 dX6_term_1 (by decide +kernel : ml _ _ = some (2, 107)) (by decide) (rfl : mtab[107]? = some _) (by decide +kernel : npar _ = 0) rfl (by decide) rfl (of_decide_eq_true rfl) (len_cat (of_decide_eq_true rfl)) rfl rfl rfl
theorem i108_4 {d a l1 t h Q} : Ev d 108 4 [some (.ref a), l1] t h Q = Ev d 108 5 [some (.ref a), l1] (.ref a :: t) h Q := en_aload_n mm108 dX6_term_4 rfl
theorem i108_5 {d a l0 l1 h Q} : Ev (d + 1) 108 5 [l0, l1] [.ref a] h Q = (hk h a = 7 ∧ EvM d 100 [.ref a] h (konN (d + 1) 108 8 [l0, l1] [] Q)) := en_virtualN mm108 dX6_term_5 (by decide +kernel : ml _ _ = some (2, 100)) (by decide) (rfl : mtab[100]? = some _) (by decide +kernel : npar _ = 0) rfl (by decide) rfl (of_decide_eq_true rfl) (len_cat (of_decide_eq_true rfl)) rfl rfl rfl
theorem i108_8 {d l0 l1 t x h Q} : Ev d 108 8 [l0, l1] (.int x :: t) h Q = if x = 0 then Ev d 108 74 [l0, l1] t h Q else Ev d 108 11 [l0, l1] t h Q := en_if_eq mm108 dX6_term_8 rfl
theorem i108_11 {d a l1 t h Q} : Ev d 108 11 [some (.ref a), l1] t h Q = Ev d 108 12 [some (.ref a), l1] (.ref a :: t) h Q := en_aload_n mm108 dX6_term_11 rfl
theorem i108_12 {d a l0 l1 h Q} : Ev (d + 1) 108 12 [l0, l1] [.ref a] h Q = (hk h a = 7 ∧ EvM d 99 [.ref a] h (konN (d + 1) 108 15 [l0, l1] [] Q)) := en_virtualN mm108 dX6_term_12 (by decide +kernel : ml _ _ = some (2, 99)) (by decide) (rfl : mtab[99]? = some _) (by decide +kernel : npar _ = 0) rfl (by decide) rfl (of_decide_eq_true rfl) (len_cat (of_decide_eq_true rfl)) rfl rfl rfl
theorem i108_15 {d l0 l1 t h Q} : Ev d 108 15 [l0, l1] t h Q = Ev d 108 17 [l0, l1] (.int 42 :: t) h Q := en_bipush mm108 dX6_term_15 (by decide)
theorem i108_17 {d l0 l1 t x y h Q} : Ev d 108 17 [l0, l1] (.int y :: .int x :: t) h Q = if x = y then Ev d 108 29 [l0, l1] t h Q else Ev d 108 20 [l0, l1] t h Q := en_ic_eq mm108 dX6_term_17 rfl
theorem i108_20 {d a l1 t h Q} : Ev d 108 20 [some (.ref a), l1] t h Q = Ev d 108 21 [some (.ref a), l1] (.ref a :: t) h Q := en_aload_n mm108 dX6_term_20 rfl
theorem i108_21 {d a l0 l1 h Q} : Ev (d + 1) 108 21 [l0, l1] [.ref a] h Q = (hk h a = 7 ∧ EvM d 99 [.ref a] h (konN (d + 1) 108 24 [l0, l1] [] Q)) := en_virtualN mm108 dX6_term_21 (by decide +kernel : ml _ _ = some (2, 99)) (by decide) (rfl : mtab[99]? = some _) (by decide +kernel : npar _ = 0) rfl (by decide) rfl (of_decide_eq_true rfl) (len_cat (of_decide_eq_true rfl)) rfl rfl rfl
theorem i108_24 {d l0 l1 t h Q} : Ev d 108 24 [l0, l1] t h Q = Ev d 108 26 [l0, l1] (.int 47 :: t) h Q := en_bipush mm108 dX6_term_24 (by decide)
theorem i108_26 {d l0 l1 t x y h Q} : Ev d 108 26 [l0, l1] (.int y :: .int x :: t) h Q = if x = y then Ev d 108 29 [l0, l1] t h Q else Ev d 108 74 [l0, l1] t h Q := en_ic_ne mm108 dX6_term_26 rfl
theorem i108_29 {d a l1 t h Q} : Ev d 108 29 [some (.ref a), l1] t h Q = Ev d 108 30 [some (.ref a), l1] (.ref a :: t) h Q := en_aload_n mm108 dX6_term_29 rfl
theorem i108_30 {d a l0 l1 h Q} : Ev (d + 1) 108 30 [l0, l1] [.ref a] h Q = (hk h a = 7 ∧ EvM d 99 [.ref a] h (konN (d + 1) 108 33 [l0, l1] [] Q)) := en_virtualN mm108 dX6_term_30 (by decide +kernel : ml _ _ = some (2, 99)) (by decide) (rfl : mtab[99]? = some _) (by decide +kernel : npar _ = 0) rfl (by decide) rfl (of_decide_eq_true rfl) (len_cat (of_decide_eq_true rfl)) rfl rfl rfl
theorem i108_33 {d l0 l1 t h Q} : Ev d 108 33 [l0, l1] t h Q = Ev d 108 35 [l0, l1] (.int 42 :: t) h Q := en_bipush mm108 dX6_term_33 (by decide)
theorem i108_35 {d l0 l1 t x y h Q} : Ev d 108 35 [l0, l1] (.int y :: .int x :: t) h Q = if x = y then Ev d 108 38 [l0, l1] t h Q else Ev d 108 42 [l0, l1] t h Q := en_ic_ne mm108 dX6_term_35 rfl
theorem i108_38 {d l0 l1 t h Q} : Ev d 108 38 [l0, l1] t h Q = Ev d 108 39 [l0, l1] (.int 1 :: t) h Q := en_iconst mm108 dX6_term_38 (by decide)
theorem i108_39 {d l0 l1 t h Q} : Ev d 108 39 [l0, l1] t h Q = Ev d 108 43 [l0, l1] t h Q := en_goto mm108 dX6_term_39 rfl
theorem i108_42 {d l0 l1 t h Q} : Ev d 108 42 [l0, l1] t h Q = Ev d 108 43 [l0, l1] (.int 0 :: t) h Q := en_iconst mm108 dX6_term_42 (by decide)
theorem i108_43 {d l0 l1 t x h Q} : Ev d 108 43 [l0, l1] (.int x :: t) h Q = Ev d 108 44 [nl l0, some (.int x)] t h Q := en_istore_n mm108 dX6_term_43 (of_decide_eq_true rfl) rfl
theorem i108_44 {d a l1 t h Q} : Ev d 108 44 [some (.ref a), l1] t h Q = Ev d 108 45 [some (.ref a), l1] (.ref a :: t) h Q := en_aload_n mm108 dX6_term_44 rfl
theorem i108_45 {d a l0 l1 t h Q} : Ev d 108 45 [l0, l1] (.ref a :: t) h Q = Ev d 108 46 [l0, l1] (.ref a :: .ref a :: t) h Q := en_dup mm108 dX6_term_45
theorem i108_46 {d a l0 l1 t h Q} : Ev d 108 46 [l0, l1] (.ref a :: t) h Q = (hk h a = 7 ∧ Ev d 108 49 [l0, l1] (hF h a 4 :: t) h Q) := en_getfield mm108 dX6_term_46 (by decide +kernel)
theorem i108_49 {d l0 l1 t h Q} : Ev d 108 49 [l0, l1] t h Q = Ev d 108 50 [l0, l1] (.int 1 :: t) h Q := en_iconst mm108 dX6_term_49 (by decide)
theorem i108_50 {d l0 l1 t x y h Q} : Ev d 108 50 [l0, l1] (.int y :: .int x :: t) h Q = Ev d 108 51 [l0, l1] (.int (x + y) :: t) h Q := en_iadd mm108 dX6_term_50
theorem i108_51 {d a l0 l1 t x h Q} : Ev d 108 51 [l0, l1] (.int x :: .ref a :: t) h Q = (hk h a = 7 ∧ Ev d 108 54 [l0, l1] t (wF h a 4 (.int x)) Q) := en_putfield mm108 dX6_term_51 (by decide +kernel) rfl
theorem i108_54 {d a l1 t h Q} : Ev d 108 54 [some (.ref a), l1] t h Q = Ev d 108 55 [some (.ref a), l1] (.ref a :: t) h Q := en_aload_n mm108 dX6_term_54 rfl
theorem i108_55 {d a l0 l1 h Q} : Ev (d + 1) 108 55 [l0, l1] [.ref a] h Q = (hk h a = 7 ∧ EvM d 107 [.ref a] h (konN (d + 1) 108 58 [l0, l1] [] Q)) := en_virtualN mm108 dX6_term_55 (by decide +kernel : ml _ _ = some (2, 107)) (by decide) (rfl : mtab[107]? = some _) (by decide +kernel : npar _ = 0) rfl (by decide) rfl (of_decide_eq_true rfl) (len_cat (of_decide_eq_true rfl)) rfl rfl rfl
theorem i108_58 {d a l1 t h Q} : Ev d 108 58 [some (.ref a), l1] t h Q = Ev d 108 59 [some (.ref a), l1] (.ref a :: t) h Q := en_aload_n mm108 dX6_term_58 rfl
theorem i108_59 {d l0 t x h Q} : Ev d 108 59 [l0, some (.int x)] t h Q = Ev d 108 60 [l0, some (.int x)] (.int x :: t) h Q := en_iload_n mm108 dX6_term_59 rfl
theorem i108_60 {d l0 l1 t x h Q} : Ev d 108 60 [l0, l1] (.int x :: t) h Q = if x = 0 then Ev d 108 67 [l0, l1] t h Q else Ev d 108 63 [l0, l1] t h Q := en_if_eq mm108 dX6_term_60 rfl
theorem i108_63 {d l0 l1 t h Q} : Ev d 108 63 [l0, l1] t h Q = Ev d 108 64 [l0, l1] (.int 4 :: t) h Q := en_iconst mm108 dX6_term_63 (by decide)
theorem i108_64 {d l0 l1 t h Q} : Ev d 108 64 [l0, l1] t h Q = Ev d 108 68 [l0, l1] t h Q := en_goto mm108 dX6_term_64 rfl
theorem i108_67 {d l0 l1 t h Q} : Ev d 108 67 [l0, l1] t h Q = Ev d 108 68 [l0, l1] (.int 5 :: t) h Q := en_iconst mm108 dX6_term_67 (by decide)
theorem i108_68 {d a l0 l1 x0 h Q} : Ev (d + 1) 108 68 [l0, l1] [x0, .ref a] h Q = (hk h a = 7 ∧ EvM d 106 [.ref a, x0] h (konN (d + 1) 108 71 [l0, l1] [] Q)) := en_virtualN mm108 dX6_term_68 (by decide +kernel : ml _ _ = some (2, 106)) (by decide) (rfl : mtab[106]? = some _) (by decide +kernel : npar _ = 1) rfl (by decide) rfl (of_decide_eq_true rfl) (len_cat (of_decide_eq_true rfl)) rfl rfl rfl
theorem i108_71 {d l0 l1 t h Q} : Ev d 108 71 [l0, l1] t h Q = Ev d 108 4 [l0, l1] t h Q := en_goto mm108 dX6_term_71 rfl
theorem i108_74 {d l0 l1 h Q} : Ev d 108 74 [l0, l1] [] h Q = Q (.inl none) h := en_return mm108 dX6_term_74 rfl
abbrev em109 : MI := (yX6_sum, cX6_sum, 2, none, 6, [])
theorem mm109 : mtab[109]? = some em109 := rfl
theorem in109 {d : Nat} {h : AH} {K : AO → AH → Prop} {v0 : Nat} : EvM d 109 [(.ref v0)] h K = Ev d 109 0 [some (.ref v0), none] [] h K := evm_in mm109 (of_decide_eq_true rfl) rfl
theorem i109_0 {d a l1 t h Q} : Ev d 109 0 [some (.ref a), l1] t h Q = Ev d 109 1 [some (.ref a), l1] (.ref a :: t) h Q := en_aload_n mm109 dX6_sum_0 rfl
theorem i109_1 {d a l0 l1 h Q} : Ev (d + 1) 109 1 [l0, l1] [.ref a] h Q = (hk h a = 7 ∧ EvM d 108 [.ref a] h (konN (d + 1) 109 4 [l0, l1] [] Q)) := en_virtualN mm109 dX6_sum_1 (by decide +kernel : ml _ _ = some (2, 108)) (by decide) (rfl : mtab[108]? = some _) (by decide +kernel : npar _ = 0) rfl (by decide) rfl (of_decide_eq_true rfl) (len_cat (of_decide_eq_true rfl)) rfl rfl rfl
theorem i109_4 {d a l1 t h Q} : Ev d 109 4 [some (.ref a), l1] t h Q = Ev d 109 5 [some (.ref a), l1] (.ref a :: t) h Q := en_aload_n mm109 dX6_sum_4 rfl
theorem i109_5 {d a l0 l1 h Q} : Ev (d + 1) 109 5 [l0, l1] [.ref a] h Q = (hk h a = 7 ∧ EvM d 100 [.ref a] h (konN (d + 1) 109 8 [l0, l1] [] Q)) := en_virtualN mm109 dX6_sum_5 (by decide +kernel : ml _ _ = some (2, 100)) (by decide) (rfl : mtab[100]? = some _) (by decide +kernel : npar _ = 0) rfl (by decide) rfl (of_decide_eq_true rfl) (len_cat (of_decide_eq_true rfl)) rfl rfl rfl
theorem i109_8 {d l0 l1 t x h Q} : Ev d 109 8 [l0, l1] (.int x :: t) h Q = if x = 0 then Ev d 109 74 [l0, l1] t h Q else Ev d 109 11 [l0, l1] t h Q := en_if_eq mm109 dX6_sum_8 rfl
theorem i109_11 {d a l1 t h Q} : Ev d 109 11 [some (.ref a), l1] t h Q = Ev d 109 12 [some (.ref a), l1] (.ref a :: t) h Q := en_aload_n mm109 dX6_sum_11 rfl
theorem i109_12 {d a l0 l1 h Q} : Ev (d + 1) 109 12 [l0, l1] [.ref a] h Q = (hk h a = 7 ∧ EvM d 99 [.ref a] h (konN (d + 1) 109 15 [l0, l1] [] Q)) := en_virtualN mm109 dX6_sum_12 (by decide +kernel : ml _ _ = some (2, 99)) (by decide) (rfl : mtab[99]? = some _) (by decide +kernel : npar _ = 0) rfl (by decide) rfl (of_decide_eq_true rfl) (len_cat (of_decide_eq_true rfl)) rfl rfl rfl
theorem i109_15 {d l0 l1 t h Q} : Ev d 109 15 [l0, l1] t h Q = Ev d 109 17 [l0, l1] (.int 43 :: t) h Q := en_bipush mm109 dX6_sum_15 (by decide)
theorem i109_17 {d l0 l1 t x y h Q} : Ev d 109 17 [l0, l1] (.int y :: .int x :: t) h Q = if x = y then Ev d 109 29 [l0, l1] t h Q else Ev d 109 20 [l0, l1] t h Q := en_ic_eq mm109 dX6_sum_17 rfl
theorem i109_20 {d a l1 t h Q} : Ev d 109 20 [some (.ref a), l1] t h Q = Ev d 109 21 [some (.ref a), l1] (.ref a :: t) h Q := en_aload_n mm109 dX6_sum_20 rfl
theorem i109_21 {d a l0 l1 h Q} : Ev (d + 1) 109 21 [l0, l1] [.ref a] h Q = (hk h a = 7 ∧ EvM d 99 [.ref a] h (konN (d + 1) 109 24 [l0, l1] [] Q)) := en_virtualN mm109 dX6_sum_21 (by decide +kernel : ml _ _ = some (2, 99)) (by decide) (rfl : mtab[99]? = some _) (by decide +kernel : npar _ = 0) rfl (by decide) rfl (of_decide_eq_true rfl) (len_cat (of_decide_eq_true rfl)) rfl rfl rfl
theorem i109_24 {d l0 l1 t h Q} : Ev d 109 24 [l0, l1] t h Q = Ev d 109 26 [l0, l1] (.int 45 :: t) h Q := en_bipush mm109 dX6_sum_24 (by decide)
theorem i109_26 {d l0 l1 t x y h Q} : Ev d 109 26 [l0, l1] (.int y :: .int x :: t) h Q = if x = y then Ev d 109 29 [l0, l1] t h Q else Ev d 109 74 [l0, l1] t h Q := en_ic_ne mm109 dX6_sum_26 rfl
theorem i109_29 {d a l1 t h Q} : Ev d 109 29 [some (.ref a), l1] t h Q = Ev d 109 30 [some (.ref a), l1] (.ref a :: t) h Q := en_aload_n mm109 dX6_sum_29 rfl
theorem i109_30 {d a l0 l1 h Q} : Ev (d + 1) 109 30 [l0, l1] [.ref a] h Q = (hk h a = 7 ∧ EvM d 99 [.ref a] h (konN (d + 1) 109 33 [l0, l1] [] Q)) := en_virtualN mm109 dX6_sum_30 (by decide +kernel : ml _ _ = some (2, 99)) (by decide) (rfl : mtab[99]? = some _) (by decide +kernel : npar _ = 0) rfl (by decide) rfl (of_decide_eq_true rfl) (len_cat (of_decide_eq_true rfl)) rfl rfl rfl
theorem i109_33 {d l0 l1 t h Q} : Ev d 109 33 [l0, l1] t h Q = Ev d 109 35 [l0, l1] (.int 43 :: t) h Q := en_bipush mm109 dX6_sum_33 (by decide)
theorem i109_35 {d l0 l1 t x y h Q} : Ev d 109 35 [l0, l1] (.int y :: .int x :: t) h Q = if x = y then Ev d 109 38 [l0, l1] t h Q else Ev d 109 42 [l0, l1] t h Q := en_ic_ne mm109 dX6_sum_35 rfl
theorem i109_38 {d l0 l1 t h Q} : Ev d 109 38 [l0, l1] t h Q = Ev d 109 39 [l0, l1] (.int 1 :: t) h Q := en_iconst mm109 dX6_sum_38 (by decide)
theorem i109_39 {d l0 l1 t h Q} : Ev d 109 39 [l0, l1] t h Q = Ev d 109 43 [l0, l1] t h Q := en_goto mm109 dX6_sum_39 rfl
theorem i109_42 {d l0 l1 t h Q} : Ev d 109 42 [l0, l1] t h Q = Ev d 109 43 [l0, l1] (.int 0 :: t) h Q := en_iconst mm109 dX6_sum_42 (by decide)
theorem i109_43 {d l0 l1 t x h Q} : Ev d 109 43 [l0, l1] (.int x :: t) h Q = Ev d 109 44 [nl l0, some (.int x)] t h Q := en_istore_n mm109 dX6_sum_43 (of_decide_eq_true rfl) rfl
theorem i109_44 {d a l1 t h Q} : Ev d 109 44 [some (.ref a), l1] t h Q = Ev d 109 45 [some (.ref a), l1] (.ref a :: t) h Q := en_aload_n mm109 dX6_sum_44 rfl
theorem i109_45 {d a l0 l1 t h Q} : Ev d 109 45 [l0, l1] (.ref a :: t) h Q = Ev d 109 46 [l0, l1] (.ref a :: .ref a :: t) h Q := en_dup mm109 dX6_sum_45
theorem i109_46 {d a l0 l1 t h Q} : Ev d 109 46 [l0, l1] (.ref a :: t) h Q = (hk h a = 7 ∧ Ev d 109 49 [l0, l1] (hF h a 4 :: t) h Q) := en_getfield mm109 dX6_sum_46 (by decide +kernel)
theorem i109_49 {d l0 l1 t h Q} : Ev d 109 49 [l0, l1] t h Q = Ev d 109 50 [l0, l1] (.int 1 :: t) h Q := en_iconst mm109 dX6_sum_49 (by decide)
theorem i109_50 {d l0 l1 t x y h Q} : Ev d 109 50 [l0, l1] (.int y :: .int x :: t) h Q = Ev d 109 51 [l0, l1] (.int (x + y) :: t) h Q := en_iadd mm109 dX6_sum_50
theorem i109_51 {d a l0 l1 t x h Q} : Ev d 109 51 [l0, l1] (.int x :: .ref a :: t) h Q = (hk h a = 7 ∧ Ev d 109 54 [l0, l1] t (wF h a 4 (.int x)) Q) := en_putfield mm109 dX6_sum_51 (by decide +kernel) rfl
theorem i109_54 {d a l1 t h Q} : Ev d 109 54 [some (.ref a), l1] t h Q = Ev d 109 55 [some (.ref a), l1] (.ref a :: t) h Q := en_aload_n mm109 dX6_sum_54 rfl
theorem i109_55 {d a l0 l1 h Q} : Ev (d + 1) 109 55 [l0, l1] [.ref a] h Q = (hk h a = 7 ∧ EvM d 108 [.ref a] h (konN (d + 1) 109 58 [l0, l1] [] Q)) := en_virtualN mm109 dX6_sum_55 (by decide +kernel : ml _ _ = some (2, 108)) (by decide) (rfl : mtab[108]? = some _) (by decide +kernel : npar _ = 0) rfl (by decide) rfl (of_decide_eq_true rfl) (len_cat (of_decide_eq_true rfl)) rfl rfl rfl
theorem i109_58 {d a l1 t h Q} : Ev d 109 58 [some (.ref a), l1] t h Q = Ev d 109 59 [some (.ref a), l1] (.ref a :: t) h Q := en_aload_n mm109 dX6_sum_58 rfl
theorem i109_59 {d l0 t x h Q} : Ev d 109 59 [l0, some (.int x)] t h Q = Ev d 109 60 [l0, some (.int x)] (.int x :: t) h Q := en_iload_n mm109 dX6_sum_59 rfl
theorem i109_60 {d l0 l1 t x h Q} : Ev d 109 60 [l0, l1] (.int x :: t) h Q = if x = 0 then Ev d 109 67 [l0, l1] t h Q else Ev d 109 63 [l0, l1] t h Q := en_if_eq mm109 dX6_sum_60 rfl
theorem i109_63 {d l0 l1 t h Q} : Ev d 109 63 [l0, l1] t h Q = Ev d 109 64 [l0, l1] (.int 2 :: t) h Q := en_iconst mm109 dX6_sum_63 (by decide)
theorem i109_64 {d l0 l1 t h Q} : Ev d 109 64 [l0, l1] t h Q = Ev d 109 68 [l0, l1] t h Q := en_goto mm109 dX6_sum_64 rfl
theorem i109_67 {d l0 l1 t h Q} : Ev d 109 67 [l0, l1] t h Q = Ev d 109 68 [l0, l1] (.int 3 :: t) h Q := en_iconst mm109 dX6_sum_67 (by decide)
theorem i109_68 {d a l0 l1 x0 h Q} : Ev (d + 1) 109 68 [l0, l1] [x0, .ref a] h Q = (hk h a = 7 ∧ EvM d 106 [.ref a, x0] h (konN (d + 1) 109 71 [l0, l1] [] Q)) := en_virtualN mm109 dX6_sum_68 (by decide +kernel : ml _ _ = some (2, 106)) (by decide) (rfl : mtab[106]? = some _) (by decide +kernel : npar _ = 1) rfl (by decide) rfl (of_decide_eq_true rfl) (len_cat (of_decide_eq_true rfl)) rfl rfl rfl
theorem i109_71 {d l0 l1 t h Q} : Ev d 109 71 [l0, l1] t h Q = Ev d 109 4 [l0, l1] t h Q := en_goto mm109 dX6_sum_71 rfl
theorem i109_74 {d l0 l1 h Q} : Ev d 109 74 [l0, l1] [] h Q = Q (.inl none) h := en_return mm109 dX6_sum_74 rfl
abbrev em110 : MI := (yX6_once, cX6_once, 3, none, 6, [])
theorem mm110 : mtab[110]? = some em110 := rfl
theorem in110 {d : Nat} {h : AH} {K : AO → AH → Prop} {v0 : Nat} {v1 : Int32} {v2 : Int32} : EvM d 110 [(.ref v0), (.int v1), (.int v2)] h K = Ev d 110 0 [some (.ref v0), some (.int v1), some (.int v2)] [] h K := evm_in mm110 (of_decide_eq_true rfl) rfl
theorem i110_0 {d a l1 l2 t h Q} : Ev d 110 0 [some (.ref a), l1, l2] t h Q = Ev d 110 1 [some (.ref a), l1, l2] (.ref a :: t) h Q := en_aload_n mm110 dX6_once_0 rfl
theorem i110_1 {d a l0 l1 l2 t h Q} : Ev d 110 1 [l0, l1, l2] (.ref a :: t) h Q = (hk h a = 7 ∧ Ev d 110 4 [l0, l1, l2] (hF h a 14 :: t) h Q) := en_getfield mm110 dX6_once_1 (by decide +kernel)
theorem i110_4 {d l0 l2 t x h Q} : Ev d 110 4 [l0, some (.int x), l2] t h Q = Ev d 110 5 [l0, some (.int x), l2] (.int x :: t) h Q := en_iload_n mm110 dX6_once_4 rfl
theorem i110_5 {d l0 l1 l2 t x y h Q} : Ev d 110 5 [l0, l1, l2] (.int y :: .int x :: t) h Q = Ev d 110 6 [l0, l1, l2] (.int (x >>> (y &&& 31)) :: t) h Q := en_ishr mm110 dX6_once_5
theorem i110_6 {d l0 l1 l2 t h Q} : Ev d 110 6 [l0, l1, l2] t h Q = Ev d 110 7 [l0, l1, l2] (.int 1 :: t) h Q := en_iconst mm110 dX6_once_6 (by decide)
theorem i110_7 {d l0 l1 l2 t x y h Q} : Ev d 110 7 [l0, l1, l2] (.int y :: .int x :: t) h Q = Ev d 110 8 [l0, l1, l2] (.int (x &&& y) :: t) h Q := en_iand mm110 dX6_once_7
theorem i110_8 {d l0 l1 l2 t h Q} : Ev d 110 8 [l0, l1, l2] t h Q = Ev d 110 9 [l0, l1, l2] (.int 1 :: t) h Q := en_iconst mm110 dX6_once_8 (by decide)
theorem i110_9 {d l0 l1 l2 t x y h Q} : Ev d 110 9 [l0, l1, l2] (.int y :: .int x :: t) h Q = if x = y then Ev d 110 12 [l0, l1, l2] t h Q else Ev d 110 19 [l0, l1, l2] t h Q := en_ic_ne mm110 dX6_once_9 rfl
theorem i110_12 {d a l1 l2 t h Q} : Ev d 110 12 [some (.ref a), l1, l2] t h Q = Ev d 110 13 [some (.ref a), l1, l2] (.ref a :: t) h Q := en_aload_n mm110 dX6_once_12 rfl
theorem i110_13 {d l0 l1 l2 t h Q} : Ev d 110 13 [l0, l1, l2] t h Q = Ev d 110 15 [l0, l1, l2] (.int (-2) :: t) h Q := en_bipush mm110 dX6_once_13 (by decide)
theorem i110_15 {d l0 l1 t x h Q} : Ev d 110 15 [l0, l1, some (.int x)] t h Q = Ev d 110 16 [l0, l1, some (.int x)] (.int x :: t) h Q := en_iload_n mm110 dX6_once_15 rfl
theorem i110_16 {d a l0 l1 l2 x0 x1 h Q} : Ev (d + 1) 110 16 [l0, l1, l2] [x0, x1, .ref a] h Q = (hk h a = 7 ∧ EvM d 101 [.ref a, x1, x0] h (konN (d + 1) 110 19 [l0, l1, l2] [] Q)) := en_virtualN mm110 dX6_once_16 (by decide +kernel : ml _ _ = some (2, 101)) (by decide) (rfl : mtab[101]? = some _) (by decide +kernel : npar _ = 2) rfl (by decide) rfl (of_decide_eq_true rfl) (len_cat (of_decide_eq_true rfl)) rfl rfl rfl
theorem i110_19 {d a l1 l2 t h Q} : Ev d 110 19 [some (.ref a), l1, l2] t h Q = Ev d 110 20 [some (.ref a), l1, l2] (.ref a :: t) h Q := en_aload_n mm110 dX6_once_19 rfl
theorem i110_20 {d a l0 l1 l2 t h Q} : Ev d 110 20 [l0, l1, l2] (.ref a :: t) h Q = Ev d 110 21 [l0, l1, l2] (.ref a :: .ref a :: t) h Q := en_dup mm110 dX6_once_20
theorem i110_21 {d a l0 l1 l2 t h Q} : Ev d 110 21 [l0, l1, l2] (.ref a :: t) h Q = (hk h a = 7 ∧ Ev d 110 24 [l0, l1, l2] (hF h a 14 :: t) h Q) := en_getfield mm110 dX6_once_21 (by decide +kernel)
theorem i110_24 {d l0 l1 l2 t h Q} : Ev d 110 24 [l0, l1, l2] t h Q = Ev d 110 25 [l0, l1, l2] (.int 1 :: t) h Q := en_iconst mm110 dX6_once_24 (by decide)
theorem i110_25 {d l0 l2 t x h Q} : Ev d 110 25 [l0, some (.int x), l2] t h Q = Ev d 110 26 [l0, some (.int x), l2] (.int x :: t) h Q := en_iload_n mm110 dX6_once_25 rfl
theorem i110_26 {d l0 l1 l2 t x y h Q} : Ev d 110 26 [l0, l1, l2] (.int y :: .int x :: t) h Q = Ev d 110 27 [l0, l1, l2] (.int (x <<< (y &&& 31)) :: t) h Q := en_ishl mm110 dX6_once_26
theorem i110_27 {d l0 l1 l2 t x y h Q} : Ev d 110 27 [l0, l1, l2] (.int y :: .int x :: t) h Q = Ev d 110 28 [l0, l1, l2] (.int (x ||| y) :: t) h Q := en_ior mm110 dX6_once_27
theorem i110_28 {d a l0 l1 l2 t x h Q} : Ev d 110 28 [l0, l1, l2] (.int x :: .ref a :: t) h Q = (hk h a = 7 ∧ Ev d 110 31 [l0, l1, l2] t (wF h a 14 (.int x)) Q) := en_putfield mm110 dX6_once_28 (by decide +kernel) rfl
theorem i110_31 {d l0 l1 l2 h Q} : Ev d 110 31 [l0, l1, l2] [] h Q = Q (.inl none) h := en_return mm110 dX6_once_31 rfl
