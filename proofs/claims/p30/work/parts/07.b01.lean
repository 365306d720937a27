/-! AN EQUATION FOR EACH INSTRUCTION -/
abbrev em22 : MI := (yX2_learn, cX2_learn, 3, none, 2, [])
theorem mm22 : mtab[22]? = some em22 := rfl
theorem in22 {d : Nat} {h : AH} {K : AO → AH → Prop} {v0 : Nat} {v1 : Int32} {v2 : Int32} : EvM d 22 [(.ref v0), (.int v1), (.int v2)] h K = Ev d 22 0 [some (.ref v0), some (.int v1), some (.int v2)] [] h K := evm_in mm22 (of_decide_eq_true rfl) rfl
theorem i22_0 {d a l1 l2 t h Q} : Ev d 22 0 [some (.ref a), l1, l2] t h Q = Ev d 22 1 [some (.ref a), l1, l2] (.ref a :: t) h Q := en_aload_n mm22 dX2_learn_0 rfl
theorem i22_1 {d a l0 l1 l2 t h Q} : Ev d 22 1 [l0, l1, l2] (.ref a :: t) h Q = (hk h a = 3 ∧ Ev d 22 4 [l0, l1, l2] (hF h a 14 :: t) h Q) := en_getfield (cj := 2) mm22 dX2_learn_1 (by decide +kernel)
theorem i22_4 {d l0 l2 t x h Q} : Ev d 22 4 [l0, some (.int x), l2] t h Q = Ev d 22 5 [l0, some (.int x), l2] (.int x :: t) h Q := en_iload_n mm22 dX2_learn_4 rfl
theorem i22_5 {d a l1 l2 t h Q} : Ev d 22 5 [some (.ref a), l1, l2] t h Q = Ev d 22 6 [some (.ref a), l1, l2] (.ref a :: t) h Q := en_aload_n mm22 dX2_learn_5 rfl
theorem i22_6 {d a l0 l1 l2 t h Q} : Ev d 22 6 [l0, l1, l2] (.ref a :: t) h Q = (hk h a = 3 ∧ Ev d 22 9 [l0, l1, l2] (hF h a 14 :: t) h Q) := en_getfield (cj := 2) mm22 dX2_learn_6 (by decide +kernel)
theorem i22_9 {d l0 l2 t x h Q} : Ev d 22 9 [l0, some (.int x), l2] t h Q = Ev d 22 10 [l0, some (.int x), l2] (.int x :: t) h Q := en_iload_n mm22 dX2_learn_9 rfl
theorem i22_10 {d a j l0 l1 l2 t h Q} : Ev d 22 10 [l0, l1, l2] (.int j :: .ref a :: t) h Q = (hk h a = 10 ∧ inb j (hl h a) ∧ Ev d 22 11 [l0, l1, l2] (.int (hA h a j.toNatClampNeg) :: t) h Q) := en_iaload mm22 dX2_learn_10
theorem i22_11 {d l0 l1 t x h Q} : Ev d 22 11 [l0, l1, some (.int x)] t h Q = Ev d 22 12 [l0, l1, some (.int x)] (.int x :: t) h Q := en_iload_n mm22 dX2_learn_11 rfl
theorem i22_12 {d l0 l1 l2 t x y h Q} : Ev d 22 12 [l0, l1, l2] (.int y :: .int x :: t) h Q = Ev d 22 13 [l0, l1, l2] (.int (x + y) :: t) h Q := en_iadd mm22 dX2_learn_12
theorem i22_13 {d l0 l1 l2 t h Q} : Ev d 22 13 [l0, l1, l2] t h Q = Ev d 22 15 [l0, l1, l2] (.int (-50) :: t) h Q := en_bipush mm22 dX2_learn_13 (by decide)
theorem i22_15 {d l0 l1 l2 t h Q} : Ev d 22 15 [l0, l1, l2] t h Q = Ev d 22 17 [l0, l1, l2] (.int 50 :: t) h Q := en_bipush mm22 dX2_learn_15 (by decide)
theorem i22_17 {d l0 l1 l2 x0 x1 x2 x3 x4 h Q} : Ev (d + 1) 22 17 [l0, l1, l2] [x0, x1, x2, x3, x4] h Q = EvM d 83 [x2, x1, x0] h (konN (d + 1) 22 20 [l0, l1, l2] [x3, x4] Q) := en_staticN mm22 dX2_learn_17 (by decide +kernel : ml _ _ = some (1, 83)) (by decide) (rfl : mtab[83]? = some _) (by decide +kernel : npar _ = 3) (of_decide_eq_true rfl) (len_cat (of_decide_eq_true rfl)) rfl rfl rfl
theorem i22_20 {d a j l0 l1 l2 t x h Q} : Ev d 22 20 [l0, l1, l2] (.int x :: .int j :: .ref a :: t) h Q = (hk h a = 10 ∧ inb j (hl h a) ∧ Ev d 22 21 [l0, l1, l2] t (wA h a (upd (hA h a) j.toNatClampNeg x)) Q) := en_iastore mm22 dX2_learn_20
theorem i22_21 {d l0 l1 l2 h Q} : Ev d 22 21 [l0, l1, l2] [] h Q = Q (.inl none) h := en_return mm22 dX2_learn_21 rfl
abbrev em23 : MI := (yX2_moveSheetFrom, cX2_moveSheetFrom, 6, none, 2, [])
theorem mm23 : mtab[23]? = some em23 := rfl
theorem in23 {d : Nat} {h : AH} {K : AO → AH → Prop} {v0 : Nat} {v1 : Int32} : EvM d 23 [(.ref v0), (.int v1)] h K = Ev d 23 0 [some (.ref v0), some (.int v1), none, none, none, none] [] h K := evm_in mm23 (of_decide_eq_true rfl) rfl
theorem i23_0 {d a l1 l2 l3 l4 l5 t h Q} : Ev d 23 0 [some (.ref a), l1, l2, l3, l4, l5] t h Q = Ev d 23 1 [some (.ref a), l1, l2, l3, l4, l5] (.ref a :: t) h Q := en_aload_n mm23 dX2_moveSheetFrom_0 rfl
theorem i23_1 {d a l0 l1 l2 l3 l4 l5 t h Q} : Ev d 23 1 [l0, l1, l2, l3, l4, l5] (.ref a :: t) h Q = (hk h a = 3 ∧ Ev d 23 4 [l0, l1, l2, l3, l4, l5] (hF h a 7 :: t) h Q) := en_getfield (cj := 2) mm23 dX2_moveSheetFrom_1 (by decide +kernel)
theorem i23_4 {d l0 l2 l3 l4 l5 t x h Q} : Ev d 23 4 [l0, some (.int x), l2, l3, l4, l5] t h Q = Ev d 23 5 [l0, some (.int x), l2, l3, l4, l5] (.int x :: t) h Q := en_iload_n mm23 dX2_moveSheetFrom_4 rfl
theorem i23_5 {d a j l0 l1 l2 l3 l4 l5 t h Q} : Ev d 23 5 [l0, l1, l2, l3, l4, l5] (.int j :: .ref a :: t) h Q = (hk h a = 10 ∧ inb j (hl h a) ∧ Ev d 23 6 [l0, l1, l2, l3, l4, l5] (.int (hA h a j.toNatClampNeg) :: t) h Q) := en_iaload mm23 dX2_moveSheetFrom_5
theorem i23_6 {d l0 l1 l2 l3 l4 l5 t x h Q} : Ev d 23 6 [l0, l1, l2, l3, l4, l5] (.int x :: t) h Q = Ev d 23 7 [l0, nl l1, some (.int x), l3, l4, l5] t h Q := en_istore_n mm23 dX2_moveSheetFrom_6 (of_decide_eq_true rfl) rfl
theorem i23_7 {d a l1 l2 l3 l4 l5 t h Q} : Ev d 23 7 [some (.ref a), l1, l2, l3, l4, l5] t h Q = Ev d 23 8 [some (.ref a), l1, l2, l3, l4, l5] (.ref a :: t) h Q := en_aload_n mm23 dX2_moveSheetFrom_7 rfl
theorem i23_8 {d l0 l1 l3 l4 l5 t x h Q} : Ev d 23 8 [l0, l1, some (.int x), l3, l4, l5] t h Q = Ev d 23 9 [l0, l1, some (.int x), l3, l4, l5] (.int x :: t) h Q := en_iload_n mm23 dX2_moveSheetFrom_8 rfl
theorem i23_9 {d a l0 l1 l2 l3 l4 l5 x0 h Q} : Ev (d + 1) 23 9 [l0, l1, l2, l3, l4, l5] [x0, .ref a] h Q = (hk h a = 3 ∧ EvM d 8 [.ref a, x0] h (konN (d + 1) 23 12 [l0, l1, l2, l3, l4, l5] [] Q)) := en_virtualN mm23 dX2_moveSheetFrom_9 (by decide +kernel : ml _ _ = some (2, 8)) (by decide) (rfl : mtab[8]? = some _) (by decide +kernel : npar _ = 1) rfl (by decide) rfl (of_decide_eq_true rfl) (len_cat (of_decide_eq_true rfl)) rfl rfl rfl
theorem i23_12 {d l0 l1 l2 l3 l4 l5 t x h Q} : Ev d 23 12 [l0, l1, l2, l3, l4, l5] (.int x :: t) h Q = if x = 0 then Ev d 23 15 [l0, l1, l2, l3, l4, l5] t h Q else Ev d 23 16 [l0, l1, l2, l3, l4, l5] t h Q := en_if_ne mm23 dX2_moveSheetFrom_12 rfl
theorem i23_15 {d l0 l1 l2 l3 l4 l5 h Q} : Ev d 23 15 [l0, l1, l2, l3, l4, l5] [] h Q = Q (.inl none) h := en_return mm23 dX2_moveSheetFrom_15 rfl
theorem i23_16 {d l0 l2 l3 l4 l5 t x h Q} : Ev d 23 16 [l0, some (.int x), l2, l3, l4, l5] t h Q = Ev d 23 17 [l0, some (.int x), l2, l3, l4, l5] (.int x :: t) h Q := en_iload_n mm23 dX2_moveSheetFrom_16 rfl
theorem i23_17 {d a l1 l2 l3 l4 l5 t h Q} : Ev d 23 17 [some (.ref a), l1, l2, l3, l4, l5] t h Q = Ev d 23 18 [some (.ref a), l1, l2, l3, l4, l5] (.ref a :: t) h Q := en_aload_n mm23 dX2_moveSheetFrom_17 rfl
theorem i23_18 {d a l0 l1 l2 l3 l4 l5 t h Q} : Ev d 23 18 [l0, l1, l2, l3, l4, l5] (.ref a :: t) h Q = (hk h a = 3 ∧ Ev d 23 21 [l0, l1, l2, l3, l4, l5] (hF h a 0 :: t) h Q) := en_getfield (cj := 2) mm23 dX2_moveSheetFrom_18 (by decide +kernel)
theorem i23_21 {d a l0 l1 l2 l3 l4 l5 t h Q} : Ev d 23 21 [l0, l1, l2, l3, l4, l5] (.ref a :: t) h Q = (hk h a = 4 ∧ Ev d 23 24 [l0, l1, l2, l3, l4, l5] (hF h a 0 :: t) h Q) := en_getfield (cj := 3) mm23 dX2_moveSheetFrom_21 (by decide +kernel)
theorem i23_24 {d l0 l1 l2 l3 l4 l5 t h Q} : Ev d 23 24 [l0, l1, l2, l3, l4, l5] t h Q = Ev d 23 25 [l0, l1, l2, l3, l4, l5] (.int 1 :: t) h Q := en_iconst mm23 dX2_moveSheetFrom_24 (by decide)
theorem i23_25 {d l0 l1 l2 l3 l4 l5 t x y h Q} : Ev d 23 25 [l0, l1, l2, l3, l4, l5] (.int y :: .int x :: t) h Q = Ev d 23 26 [l0, l1, l2, l3, l4, l5] (.int (x - y) :: t) h Q := en_isub mm23 dX2_moveSheetFrom_25
theorem i23_26 {d l0 l1 l2 l3 l4 l5 t x y h Q} : Ev d 23 26 [l0, l1, l2, l3, l4, l5] (.int y :: .int x :: t) h Q = if x = y then Ev d 23 29 [l0, l1, l2, l3, l4, l5] t h Q else Ev d 23 33 [l0, l1, l2, l3, l4, l5] t h Q := en_ic_ne mm23 dX2_moveSheetFrom_26 rfl
theorem i23_29 {d l0 l1 l2 l3 l4 l5 t h Q} : Ev d 23 29 [l0, l1, l2, l3, l4, l5] t h Q = Ev d 23 30 [l0, l1, l2, l3, l4, l5] (.int 1 :: t) h Q := en_iconst mm23 dX2_moveSheetFrom_29 (by decide)
theorem i23_30 {d l0 l1 l2 l3 l4 l5 t h Q} : Ev d 23 30 [l0, l1, l2, l3, l4, l5] t h Q = Ev d 23 34 [l0, l1, l2, l3, l4, l5] t h Q := en_goto mm23 dX2_moveSheetFrom_30 rfl
theorem i23_33 {d l0 l1 l2 l3 l4 l5 t h Q} : Ev d 23 33 [l0, l1, l2, l3, l4, l5] t h Q = Ev d 23 34 [l0, l1, l2, l3, l4, l5] (.int 0 :: t) h Q := en_iconst mm23 dX2_moveSheetFrom_33 (by decide)
theorem i23_34 {d l0 l1 l2 l3 l4 l5 t x h Q} : Ev d 23 34 [l0, l1, l2, l3, l4, l5] (.int x :: t) h Q = Ev d 23 35 [l0, l1, nl l2, some (.int x), l4, l5] t h Q := en_istore_n mm23 dX2_moveSheetFrom_34 (of_decide_eq_true rfl) rfl
theorem i23_35 {d l0 l1 l2 l4 l5 t x h Q} : Ev d 23 35 [l0, l1, l2, some (.int x), l4, l5] t h Q = Ev d 23 36 [l0, l1, l2, some (.int x), l4, l5] (.int x :: t) h Q := en_iload_n mm23 dX2_moveSheetFrom_35 rfl
theorem i23_36 {d l0 l1 l2 l3 l4 l5 t x h Q} : Ev d 23 36 [l0, l1, l2, l3, l4, l5] (.int x :: t) h Q = if x = 0 then Ev d 23 52 [l0, l1, l2, l3, l4, l5] t h Q else Ev d 23 39 [l0, l1, l2, l3, l4, l5] t h Q := en_if_eq mm23 dX2_moveSheetFrom_36 rfl
theorem i23_39 {d a l1 l2 l3 l4 l5 t h Q} : Ev d 23 39 [some (.ref a), l1, l2, l3, l4, l5] t h Q = Ev d 23 40 [some (.ref a), l1, l2, l3, l4, l5] (.ref a :: t) h Q := en_aload_n mm23 dX2_moveSheetFrom_39 rfl
theorem i23_40 {d a l1 l2 l3 l4 l5 t h Q} : Ev d 23 40 [some (.ref a), l1, l2, l3, l4, l5] t h Q = Ev d 23 41 [some (.ref a), l1, l2, l3, l4, l5] (.ref a :: t) h Q := en_aload_n mm23 dX2_moveSheetFrom_40 rfl
theorem i23_41 {d a l0 l1 l2 l3 l4 l5 t h Q} : Ev d 23 41 [l0, l1, l2, l3, l4, l5] (.ref a :: t) h Q = (hk h a = 3 ∧ Ev d 23 44 [l0, l1, l2, l3, l4, l5] (hF h a 8 :: t) h Q) := en_getfield (cj := 2) mm23 dX2_moveSheetFrom_41 (by decide +kernel)
theorem i23_44 {d l0 l1 l3 l4 l5 t x h Q} : Ev d 23 44 [l0, l1, some (.int x), l3, l4, l5] t h Q = Ev d 23 45 [l0, l1, some (.int x), l3, l4, l5] (.int x :: t) h Q := en_iload_n mm23 dX2_moveSheetFrom_44 rfl
theorem i23_45 {d a j l0 l1 l2 l3 l4 l5 t h Q} : Ev d 23 45 [l0, l1, l2, l3, l4, l5] (.int j :: .ref a :: t) h Q = (hk h a = 10 ∧ inb j (hl h a) ∧ Ev d 23 46 [l0, l1, l2, l3, l4, l5] (.int (hA h a j.toNatClampNeg) :: t) h Q) := en_iaload mm23 dX2_moveSheetFrom_45
theorem i23_46 {d a l0 l1 l2 l3 l4 l5 x0 h Q} : Ev (d + 1) 23 46 [l0, l1, l2, l3, l4, l5] [x0, .ref a] h Q = (hk h a = 3 ∧ EvM d 24 [.ref a, x0] h (konN (d + 1) 23 49 [l0, l1, l2, l3, l4, l5] [] Q)) := en_virtualN mm23 dX2_moveSheetFrom_46 (by decide +kernel : ml _ _ = some (2, 24)) (by decide) (rfl : mtab[24]? = some _) (by decide +kernel : npar _ = 1) rfl (by decide) rfl (of_decide_eq_true rfl) (len_cat (of_decide_eq_true rfl)) rfl rfl rfl
theorem i23_49 {d l0 l1 l2 l3 l4 l5 t h Q} : Ev d 23 49 [l0, l1, l2, l3, l4, l5] t h Q = Ev d 23 53 [l0, l1, l2, l3, l4, l5] t h Q := en_goto mm23 dX2_moveSheetFrom_49 rfl
theorem i23_52 {d l0 l1 l2 l3 l4 l5 t h Q} : Ev d 23 52 [l0, l1, l2, l3, l4, l5] t h Q = Ev d 23 53 [l0, l1, l2, l3, l4, l5] (.int 0 :: t) h Q := en_iconst mm23 dX2_moveSheetFrom_52 (by decide)
theorem i23_53 {d l0 l1 l2 l3 l4 l5 t x h Q} : Ev d 23 53 [l0, l1, l2, l3, l4, l5] (.int x :: t) h Q = Ev d 23 55 [l0, l1, l2, nl l3, some (.int x), l5] t h Q := en_istore mm23 dX2_moveSheetFrom_53 (of_decide_eq_true rfl) rfl
theorem i23_55 {d a l1 l2 l3 l4 l5 t h Q} : Ev d 23 55 [some (.ref a), l1, l2, l3, l4, l5] t h Q = Ev d 23 56 [some (.ref a), l1, l2, l3, l4, l5] (.ref a :: t) h Q := en_aload_n mm23 dX2_moveSheetFrom_55 rfl
theorem i23_56 {d a l0 l1 l2 l3 l4 l5 t h Q} : Ev d 23 56 [l0, l1, l2, l3, l4, l5] (.ref a :: t) h Q = (hk h a = 3 ∧ Ev d 23 59 [l0, l1, l2, l3, l4, l5] (hF h a 9 :: t) h Q) := en_getfield (cj := 2) mm23 dX2_moveSheetFrom_56 (by decide +kernel)
theorem i23_59 {d l0 l1 l3 l4 l5 t x h Q} : Ev d 23 59 [l0, l1, some (.int x), l3, l4, l5] t h Q = Ev d 23 60 [l0, l1, some (.int x), l3, l4, l5] (.int x :: t) h Q := en_iload_n mm23 dX2_moveSheetFrom_59 rfl
theorem i23_60 {d a j l0 l1 l2 l3 l4 l5 t h Q} : Ev d 23 60 [l0, l1, l2, l3, l4, l5] (.int j :: .ref a :: t) h Q = (hk h a = 10 ∧ inb j (hl h a) ∧ Ev d 23 61 [l0, l1, l2, l3, l4, l5] (.int (hA h a j.toNatClampNeg) :: t) h Q) := en_iaload mm23 dX2_moveSheetFrom_60
theorem i23_61 {d l0 l1 l2 l3 l4 l5 t x h Q} : Ev d 23 61 [l0, l1, l2, l3, l4, l5] (.int x :: t) h Q = Ev d 23 63 [l0, l1, l2, l3, nl l4, some (.int x)] t h Q := en_istore mm23 dX2_moveSheetFrom_61 (of_decide_eq_true rfl) rfl
theorem i23_63 {d l0 l1 l2 l3 l4 t x h Q} : Ev d 23 63 [l0, l1, l2, l3, l4, some (.int x)] t h Q = Ev d 23 65 [l0, l1, l2, l3, l4, some (.int x)] (.int x :: t) h Q := en_iload mm23 dX2_moveSheetFrom_63 rfl
theorem i23_65 {d a l1 l2 l3 l4 l5 t h Q} : Ev d 23 65 [some (.ref a), l1, l2, l3, l4, l5] t h Q = Ev d 23 66 [some (.ref a), l1, l2, l3, l4, l5] (.ref a :: t) h Q := en_aload_n mm23 dX2_moveSheetFrom_65 rfl
theorem i23_66 {d a l0 l1 l2 l3 l4 l5 t h Q} : Ev d 23 66 [l0, l1, l2, l3, l4, l5] (.ref a :: t) h Q = (hk h a = 3 ∧ Ev d 23 69 [l0, l1, l2, l3, l4, l5] (hF h a 0 :: t) h Q) := en_getfield (cj := 2) mm23 dX2_moveSheetFrom_66 (by decide +kernel)
theorem i23_69 {d a l0 l1 l2 l3 l4 l5 t h Q} : Ev d 23 69 [l0, l1, l2, l3, l4, l5] (.ref a :: t) h Q = (hk h a = 4 ∧ Ev d 23 72 [l0, l1, l2, l3, l4, l5] (hF h a 7 :: t) h Q) := en_getfield (cj := 3) mm23 dX2_moveSheetFrom_69 (by decide +kernel)
theorem i23_72 {d l0 l2 l3 l4 l5 t x h Q} : Ev d 23 72 [l0, some (.int x), l2, l3, l4, l5] t h Q = Ev d 23 73 [l0, some (.int x), l2, l3, l4, l5] (.int x :: t) h Q := en_iload_n mm23 dX2_moveSheetFrom_72 rfl
theorem i23_73 {d a j l0 l1 l2 l3 l4 l5 t h Q} : Ev d 23 73 [l0, l1, l2, l3, l4, l5] (.int j :: .ref a :: t) h Q = (hk h a = 10 ∧ inb j (hl h a) ∧ Ev d 23 74 [l0, l1, l2, l3, l4, l5] (.int (hA h a j.toNatClampNeg) :: t) h Q) := en_iaload mm23 dX2_moveSheetFrom_73
theorem i23_74 {d l0 l1 l2 l3 l5 t x h Q} : Ev d 23 74 [l0, l1, l2, l3, some (.int x), l5] t h Q = Ev d 23 76 [l0, l1, l2, l3, some (.int x), l5] (.int x :: t) h Q := en_iload mm23 dX2_moveSheetFrom_74 rfl
theorem i23_76 {d l0 l1 l2 l3 l4 l5 t x y h Q} : Ev d 23 76 [l0, l1, l2, l3, l4, l5] (.int y :: .int x :: t) h Q = Ev d 23 77 [l0, l1, l2, l3, l4, l5] (.int (x + y) :: t) h Q := en_iadd mm23 dX2_moveSheetFrom_76
theorem i23_77 {d l0 l1 l2 l3 l4 l5 t x y h Q} : Ev d 23 77 [l0, l1, l2, l3, l4, l5] (.int y :: .int x :: t) h Q = if x ≤ y then Ev d 23 88 [l0, l1, l2, l3, l4, l5] t h Q else Ev d 23 80 [l0, l1, l2, l3, l4, l5] t h Q := en_ic_le mm23 dX2_moveSheetFrom_77 rfl
theorem i23_80 {d a l1 l2 l3 l4 l5 t h Q} : Ev d 23 80 [some (.ref a), l1, l2, l3, l4, l5] t h Q = Ev d 23 81 [some (.ref a), l1, l2, l3, l4, l5] (.ref a :: t) h Q := en_aload_n mm23 dX2_moveSheetFrom_80 rfl
theorem i23_81 {d l0 l1 l3 l4 l5 t x h Q} : Ev d 23 81 [l0, l1, some (.int x), l3, l4, l5] t h Q = Ev d 23 82 [l0, l1, some (.int x), l3, l4, l5] (.int x :: t) h Q := en_iload_n mm23 dX2_moveSheetFrom_81 rfl
theorem i23_82 {d a l0 l1 l2 l3 l4 l5 x0 h Q} : Ev (d + 1) 23 82 [l0, l1, l2, l3, l4, l5] [x0, .ref a] h Q = (hk h a = 3 ∧ EvM d 28 [.ref a, x0] h (konN (d + 1) 23 85 [l0, l1, l2, l3, l4, l5] [] Q)) := en_virtualN mm23 dX2_moveSheetFrom_82 (by decide +kernel : ml _ _ = some (2, 28)) (by decide) (rfl : mtab[28]? = some _) (by decide +kernel : npar _ = 1) rfl (by decide) rfl (of_decide_eq_true rfl) (len_cat (of_decide_eq_true rfl)) rfl rfl rfl
theorem i23_85 {d l0 l1 l2 l3 l4 l5 t h Q} : Ev d 23 85 [l0, l1, l2, l3, l4, l5] t h Q = Ev d 23 124 [l0, l1, l2, l3, l4, l5] t h Q := en_goto mm23 dX2_moveSheetFrom_85 rfl
theorem i23_88 {d l0 l1 l2 l3 l4 t x h Q} : Ev d 23 88 [l0, l1, l2, l3, l4, some (.int x)] t h Q = Ev d 23 90 [l0, l1, l2, l3, l4, some (.int x)] (.int x :: t) h Q := en_iload mm23 dX2_moveSheetFrom_88 rfl
theorem i23_90 {d a l1 l2 l3 l4 l5 t h Q} : Ev d 23 90 [some (.ref a), l1, l2, l3, l4, l5] t h Q = Ev d 23 91 [some (.ref a), l1, l2, l3, l4, l5] (.ref a :: t) h Q := en_aload_n mm23 dX2_moveSheetFrom_90 rfl
theorem i23_91 {d a l0 l1 l2 l3 l4 l5 t h Q} : Ev d 23 91 [l0, l1, l2, l3, l4, l5] (.ref a :: t) h Q = (hk h a = 3 ∧ Ev d 23 94 [l0, l1, l2, l3, l4, l5] (hF h a 0 :: t) h Q) := en_getfield (cj := 2) mm23 dX2_moveSheetFrom_91 (by decide +kernel)
theorem i23_94 {d a l0 l1 l2 l3 l4 l5 t h Q} : Ev d 23 94 [l0, l1, l2, l3, l4, l5] (.ref a :: t) h Q = (hk h a = 4 ∧ Ev d 23 97 [l0, l1, l2, l3, l4, l5] (hF h a 6 :: t) h Q) := en_getfield (cj := 3) mm23 dX2_moveSheetFrom_94 (by decide +kernel)
theorem i23_97 {d l0 l2 l3 l4 l5 t x h Q} : Ev d 23 97 [l0, some (.int x), l2, l3, l4, l5] t h Q = Ev d 23 98 [l0, some (.int x), l2, l3, l4, l5] (.int x :: t) h Q := en_iload_n mm23 dX2_moveSheetFrom_97 rfl
theorem i23_98 {d a j l0 l1 l2 l3 l4 l5 t h Q} : Ev d 23 98 [l0, l1, l2, l3, l4, l5] (.int j :: .ref a :: t) h Q = (hk h a = 10 ∧ inb j (hl h a) ∧ Ev d 23 99 [l0, l1, l2, l3, l4, l5] (.int (hA h a j.toNatClampNeg) :: t) h Q) := en_iaload mm23 dX2_moveSheetFrom_98
theorem i23_99 {d l0 l1 l2 l3 l5 t x h Q} : Ev d 23 99 [l0, l1, l2, l3, some (.int x), l5] t h Q = Ev d 23 101 [l0, l1, l2, l3, some (.int x), l5] (.int x :: t) h Q := en_iload mm23 dX2_moveSheetFrom_99 rfl
theorem i23_101 {d l0 l1 l2 l3 l4 l5 t x y h Q} : Ev d 23 101 [l0, l1, l2, l3, l4, l5] (.int y :: .int x :: t) h Q = Ev d 23 102 [l0, l1, l2, l3, l4, l5] (.int (x + y) :: t) h Q := en_iadd mm23 dX2_moveSheetFrom_101
theorem i23_102 {d l0 l1 l2 l3 l4 l5 t x y h Q} : Ev d 23 102 [l0, l1, l2, l3, l4, l5] (.int y :: .int x :: t) h Q = if x < y then Ev d 23 124 [l0, l1, l2, l3, l4, l5] t h Q else Ev d 23 105 [l0, l1, l2, l3, l4, l5] t h Q := en_ic_lt mm23 dX2_moveSheetFrom_102 rfl
theorem i23_105 {d l0 l1 l2 l4 l5 t x h Q} : Ev d 23 105 [l0, l1, l2, some (.int x), l4, l5] t h Q = Ev d 23 106 [l0, l1, l2, some (.int x), l4, l5] (.int x :: t) h Q := en_iload_n mm23 dX2_moveSheetFrom_105 rfl
theorem i23_106 {d l0 l1 l2 l3 l4 l5 t x h Q} : Ev d 23 106 [l0, l1, l2, l3, l4, l5] (.int x :: t) h Q = if x = 0 then Ev d 23 118 [l0, l1, l2, l3, l4, l5] t h Q else Ev d 23 109 [l0, l1, l2, l3, l4, l5] t h Q := en_if_eq mm23 dX2_moveSheetFrom_106 rfl
theorem i23_109 {d a l1 l2 l3 l4 l5 t h Q} : Ev d 23 109 [some (.ref a), l1, l2, l3, l4, l5] t h Q = Ev d 23 110 [some (.ref a), l1, l2, l3, l4, l5] (.ref a :: t) h Q := en_aload_n mm23 dX2_moveSheetFrom_109 rfl
theorem i23_110 {d l0 l2 l3 l4 l5 t x h Q} : Ev d 23 110 [l0, some (.int x), l2, l3, l4, l5] t h Q = Ev d 23 111 [l0, some (.int x), l2, l3, l4, l5] (.int x :: t) h Q := en_iload_n mm23 dX2_moveSheetFrom_110 rfl
theorem i23_111 {d l0 l1 l3 l4 l5 t x h Q} : Ev d 23 111 [l0, l1, some (.int x), l3, l4, l5] t h Q = Ev d 23 112 [l0, l1, some (.int x), l3, l4, l5] (.int x :: t) h Q := en_iload_n mm23 dX2_moveSheetFrom_111 rfl
theorem i23_112 {d a l0 l1 l2 l3 l4 l5 x0 x1 h Q} : Ev (d + 1) 23 112 [l0, l1, l2, l3, l4, l5] [x0, x1, .ref a] h Q = (hk h a = 3 ∧ EvM d 25 [.ref a, x1, x0] h (konN (d + 1) 23 115 [l0, l1, l2, l3, l4, l5] [] Q)) := en_virtualN mm23 dX2_moveSheetFrom_112 (by decide +kernel : ml _ _ = some (2, 25)) (by decide) (rfl : mtab[25]? = some _) (by decide +kernel : npar _ = 2) rfl (by decide) rfl (of_decide_eq_true rfl) (len_cat (of_decide_eq_true rfl)) rfl rfl rfl
theorem i23_115 {d l0 l1 l2 l3 l4 l5 t h Q} : Ev d 23 115 [l0, l1, l2, l3, l4, l5] t h Q = Ev d 23 124 [l0, l1, l2, l3, l4, l5] t h Q := en_goto mm23 dX2_moveSheetFrom_115 rfl
theorem i23_118 {d a l1 l2 l3 l4 l5 t h Q} : Ev d 23 118 [some (.ref a), l1, l2, l3, l4, l5] t h Q = Ev d 23 119 [some (.ref a), l1, l2, l3, l4, l5] (.ref a :: t) h Q := en_aload_n mm23 dX2_moveSheetFrom_118 rfl
theorem i23_119 {d l0 l2 l3 l4 l5 t x h Q} : Ev d 23 119 [l0, some (.int x), l2, l3, l4, l5] t h Q = Ev d 23 120 [l0, some (.int x), l2, l3, l4, l5] (.int x :: t) h Q := en_iload_n mm23 dX2_moveSheetFrom_119 rfl
theorem i23_120 {d l0 l1 l3 l4 l5 t x h Q} : Ev d 23 120 [l0, l1, some (.int x), l3, l4, l5] t h Q = Ev d 23 121 [l0, l1, some (.int x), l3, l4, l5] (.int x :: t) h Q := en_iload_n mm23 dX2_moveSheetFrom_120 rfl
theorem i23_121 {d a l0 l1 l2 l3 l4 l5 x0 x1 h Q} : Ev (d + 1) 23 121 [l0, l1, l2, l3, l4, l5] [x0, x1, .ref a] h Q = (hk h a = 3 ∧ EvM d 26 [.ref a, x1, x0] h (konN (d + 1) 23 124 [l0, l1, l2, l3, l4, l5] [] Q)) := en_virtualN mm23 dX2_moveSheetFrom_121 (by decide +kernel : ml _ _ = some (2, 26)) (by decide) (rfl : mtab[26]? = some _) (by decide +kernel : npar _ = 2) rfl (by decide) rfl (of_decide_eq_true rfl) (len_cat (of_decide_eq_true rfl)) rfl rfl rfl
theorem i23_124 {d l0 l1 l2 l3 l4 l5 h Q} : Ev d 23 124 [l0, l1, l2, l3, l4, l5] [] h Q = Q (.inl none) h := en_return mm23 dX2_moveSheetFrom_124 rfl
abbrev em24 : MI := (yX2_correctionFor, cX2_correctionFor, 2, some .int, 2, [])
theorem mm24 : mtab[24]? = some em24 := rfl
theorem in24 {d : Nat} {h : AH} {K : AO → AH → Prop} {v0 : Nat} {v1 : Int32} : EvM d 24 [(.ref v0), (.int v1)] h K = Ev d 24 0 [some (.ref v0), some (.int v1)] [] h K := evm_in mm24 (of_decide_eq_true rfl) rfl
theorem i24_0 {d l0 t x h Q} : Ev d 24 0 [l0, some (.int x)] t h Q = Ev d 24 1 [l0, some (.int x)] (.int x :: t) h Q := en_iload_n mm24 dX2_correctionFor_0 rfl
theorem i24_1 {d l0 l1 x0 h Q} : Ev (d + 1) 24 1 [l0, l1] [x0] h Q = EvM d 82 [x0] h (konN (d + 1) 24 4 [l0, l1] [] Q) := en_staticN mm24 dX2_correctionFor_1 (by decide +kernel : ml _ _ = some (1, 82)) (by decide) (rfl : mtab[82]? = some _) (by decide +kernel : npar _ = 1) (of_decide_eq_true rfl) (len_cat (of_decide_eq_true rfl)) rfl rfl rfl
theorem i24_4 {d l0 l1 t x h Q} : Ev d 24 4 [l0, l1] (.int x :: t) h Q = if x = 0 then Ev d 24 16 [l0, l1] t h Q else Ev d 24 7 [l0, l1] t h Q := en_if_eq mm24 dX2_correctionFor_4 rfl
theorem i24_7 {d a l1 t h Q} : Ev d 24 7 [some (.ref a), l1] t h Q = Ev d 24 8 [some (.ref a), l1] (.ref a :: t) h Q := en_aload_n mm24 dX2_correctionFor_7 rfl
theorem i24_8 {d a l0 l1 t h Q} : Ev d 24 8 [l0, l1] (.ref a :: t) h Q = (hk h a = 3 ∧ Ev d 24 11 [l0, l1] (hF h a 14 :: t) h Q) := en_getfield (cj := 2) mm24 dX2_correctionFor_8 (by decide +kernel)
theorem i24_11 {d l0 t x h Q} : Ev d 24 11 [l0, some (.int x)] t h Q = Ev d 24 12 [l0, some (.int x)] (.int x :: t) h Q := en_iload_n mm24 dX2_correctionFor_11 rfl
theorem i24_12 {d a j l0 l1 t h Q} : Ev d 24 12 [l0, l1] (.int j :: .ref a :: t) h Q = (hk h a = 10 ∧ inb j (hl h a) ∧ Ev d 24 13 [l0, l1] (.int (hA h a j.toNatClampNeg) :: t) h Q) := en_iaload mm24 dX2_correctionFor_12
theorem i24_13 {d l0 l1 t h Q} : Ev d 24 13 [l0, l1] t h Q = Ev d 24 17 [l0, l1] t h Q := en_goto mm24 dX2_correctionFor_13 rfl
theorem i24_16 {d l0 l1 t h Q} : Ev d 24 16 [l0, l1] t h Q = Ev d 24 17 [l0, l1] (.int 0 :: t) h Q := en_iconst mm24 dX2_correctionFor_16 (by decide)
theorem i24_17 {d l0 l1 x h Q} : Ev d 24 17 [l0, l1] [.int x] h Q = Q (.inl (some (.int x))) h := en_ireturnI mm24 dX2_correctionFor_17 rfl
abbrev em25 : MI := (yX2_moveToQuench, cX2_moveToQuench, 3, none, 2, [])
theorem mm25 : mtab[25]? = some em25 := rfl
theorem in25 {d : Nat} {h : AH} {K : AO → AH → Prop} {v0 : Nat} {v1 : Int32} {v2 : Int32} : EvM d 25 [(.ref v0), (.int v1), (.int v2)] h K = Ev d 25 0 [some (.ref v0), some (.int v1), some (.int v2)] [] h K := evm_in mm25 (of_decide_eq_true rfl) rfl
theorem i25_0 {d a l1 l2 t h Q} : Ev d 25 0 [some (.ref a), l1, l2] t h Q = Ev d 25 1 [some (.ref a), l1, l2] (.ref a :: t) h Q := en_aload_n mm25 dX2_moveToQuench_0 rfl
theorem i25_1 {d a l0 l1 l2 t h Q} : Ev d 25 1 [l0, l1, l2] (.ref a :: t) h Q = (hk h a = 3 ∧ Ev d 25 4 [l0, l1, l2] (hF h a 3 :: t) h Q) := en_getfield (cj := 2) mm25 dX2_moveToQuench_1 (by decide +kernel)
theorem i25_4 {d l0 l1 l2 t h Q} : Ev d 25 4 [l0, l1, l2] t h Q = Ev d 25 5 [l0, l1, l2] (.int (-1) :: t) h Q := en_iconst mm25 dX2_moveToQuench_4 (by decide)
theorem i25_5 {d l0 l1 l2 t x y h Q} : Ev d 25 5 [l0, l1, l2] (.int y :: .int x :: t) h Q = if x = y then Ev d 25 8 [l0, l1, l2] t h Q else Ev d 25 45 [l0, l1, l2] t h Q := en_ic_ne mm25 dX2_moveToQuench_5 rfl
theorem i25_8 {d a l1 l2 t h Q} : Ev d 25 8 [some (.ref a), l1, l2] t h Q = Ev d 25 9 [some (.ref a), l1, l2] (.ref a :: t) h Q := en_aload_n mm25 dX2_moveToQuench_8 rfl
theorem i25_9 {d a l0 l1 l2 t h Q} : Ev d 25 9 [l0, l1, l2] (.ref a :: t) h Q = (hk h a = 3 ∧ Ev d 25 12 [l0, l1, l2] (hF h a 7 :: t) h Q) := en_getfield (cj := 2) mm25 dX2_moveToQuench_9 (by decide +kernel)
theorem i25_12 {d l0 l2 t x h Q} : Ev d 25 12 [l0, some (.int x), l2] t h Q = Ev d 25 13 [l0, some (.int x), l2] (.int x :: t) h Q := en_iload_n mm25 dX2_moveToQuench_12 rfl
theorem i25_13 {d l0 l1 l2 t h Q} : Ev d 25 13 [l0, l1, l2] t h Q = Ev d 25 14 [l0, l1, l2] (.int (-1) :: t) h Q := en_iconst mm25 dX2_moveToQuench_13 (by decide)
theorem i25_14 {d a j l0 l1 l2 t x h Q} : Ev d 25 14 [l0, l1, l2] (.int x :: .int j :: .ref a :: t) h Q = (hk h a = 10 ∧ inb j (hl h a) ∧ Ev d 25 15 [l0, l1, l2] t (wA h a (upd (hA h a) j.toNatClampNeg x)) Q) := en_iastore mm25 dX2_moveToQuench_14
theorem i25_15 {d a l1 l2 t h Q} : Ev d 25 15 [some (.ref a), l1, l2] t h Q = Ev d 25 16 [some (.ref a), l1, l2] (.ref a :: t) h Q := en_aload_n mm25 dX2_moveToQuench_15 rfl
theorem i25_16 {d l0 l1 t x h Q} : Ev d 25 16 [l0, l1, some (.int x)] t h Q = Ev d 25 17 [l0, l1, some (.int x)] (.int x :: t) h Q := en_iload_n mm25 dX2_moveToQuench_16 rfl
theorem i25_17 {d a l0 l1 l2 t x h Q} : Ev d 25 17 [l0, l1, l2] (.int x :: .ref a :: t) h Q = (hk h a = 3 ∧ Ev d 25 20 [l0, l1, l2] t (wF h a 3 (.int x)) Q) := en_putfield (cj := 2) mm25 dX2_moveToQuench_17 (by decide +kernel) rfl
theorem i25_20 {d a l1 l2 t h Q} : Ev d 25 20 [some (.ref a), l1, l2] t h Q = Ev d 25 21 [some (.ref a), l1, l2] (.ref a :: t) h Q := en_aload_n mm25 dX2_moveToQuench_20 rfl
theorem i25_21 {d a l1 l2 t h Q} : Ev d 25 21 [some (.ref a), l1, l2] t h Q = Ev d 25 22 [some (.ref a), l1, l2] (.ref a :: t) h Q := en_aload_n mm25 dX2_moveToQuench_21 rfl
theorem i25_22 {d a l0 l1 l2 t h Q} : Ev d 25 22 [l0, l1, l2] (.ref a :: t) h Q = (hk h a = 3 ∧ Ev d 25 25 [l0, l1, l2] (hF h a 8 :: t) h Q) := en_getfield (cj := 2) mm25 dX2_moveToQuench_22 (by decide +kernel)
theorem i25_25 {d l0 l1 t x h Q} : Ev d 25 25 [l0, l1, some (.int x)] t h Q = Ev d 25 26 [l0, l1, some (.int x)] (.int x :: t) h Q := en_iload_n mm25 dX2_moveToQuench_25 rfl
theorem i25_26 {d a j l0 l1 l2 t h Q} : Ev d 25 26 [l0, l1, l2] (.int j :: .ref a :: t) h Q = (hk h a = 10 ∧ inb j (hl h a) ∧ Ev d 25 27 [l0, l1, l2] (.int (hA h a j.toNatClampNeg) :: t) h Q) := en_iaload mm25 dX2_moveToQuench_26
theorem i25_27 {d a l1 l2 t h Q} : Ev d 25 27 [some (.ref a), l1, l2] t h Q = Ev d 25 28 [some (.ref a), l1, l2] (.ref a :: t) h Q := en_aload_n mm25 dX2_moveToQuench_27 rfl
theorem i25_28 {d a l0 l1 l2 t h Q} : Ev d 25 28 [l0, l1, l2] (.ref a :: t) h Q = (hk h a = 3 ∧ Ev d 25 31 [l0, l1, l2] (hF h a 0 :: t) h Q) := en_getfield (cj := 2) mm25 dX2_moveToQuench_28 (by decide +kernel)
theorem i25_31 {d a l0 l1 l2 t h Q} : Ev d 25 31 [l0, l1, l2] (.ref a :: t) h Q = (hk h a = 4 ∧ Ev d 25 34 [l0, l1, l2] (hF h a 1 :: t) h Q) := en_getfield (cj := 3) mm25 dX2_moveToQuench_31 (by decide +kernel)
theorem i25_34 {d l0 l1 l2 t x y h Q} : Ev d 25 34 [l0, l1, l2] (.int y :: .int x :: t) h Q = Ev d 25 35 [l0, l1, l2] (.int (x * y) :: t) h Q := en_imul mm25 dX2_moveToQuench_34
theorem i25_35 {d a l0 l1 l2 t x h Q} : Ev d 25 35 [l0, l1, l2] (.int x :: .ref a :: t) h Q = (hk h a = 3 ∧ Ev d 25 38 [l0, l1, l2] t (wF h a 4 (.int x)) Q) := en_putfield (cj := 2) mm25 dX2_moveToQuench_35 (by decide +kernel) rfl
theorem i25_38 {d a l1 l2 t h Q} : Ev d 25 38 [some (.ref a), l1, l2] t h Q = Ev d 25 39 [some (.ref a), l1, l2] (.ref a :: t) h Q := en_aload_n mm25 dX2_moveToQuench_38 rfl
theorem i25_39 {d a l0 l1 l2 t h Q} : Ev d 25 39 [l0, l1, l2] (.ref a :: t) h Q = (hk h a = 3 ∧ Ev d 25 42 [l0, l1, l2] (hF h a 10 :: t) h Q) := en_getfield (cj := 2) mm25 dX2_moveToQuench_39 (by decide +kernel)
theorem i25_42 {d l0 l1 t x h Q} : Ev d 25 42 [l0, l1, some (.int x)] t h Q = Ev d 25 43 [l0, l1, some (.int x)] (.int x :: t) h Q := en_iload_n mm25 dX2_moveToQuench_42 rfl
theorem i25_43 {d l0 l1 l2 t h Q} : Ev d 25 43 [l0, l1, l2] t h Q = Ev d 25 44 [l0, l1, l2] (.int 2 :: t) h Q := en_iconst mm25 dX2_moveToQuench_43 (by decide)
theorem i25_44 {d a j l0 l1 l2 t x h Q} : Ev d 25 44 [l0, l1, l2] (.int x :: .int j :: .ref a :: t) h Q = (hk h a = 10 ∧ inb j (hl h a) ∧ Ev d 25 45 [l0, l1, l2] t (wA h a (upd (hA h a) j.toNatClampNeg x)) Q) := en_iastore mm25 dX2_moveToQuench_44
theorem i25_45 {d l0 l1 l2 h Q} : Ev d 25 45 [l0, l1, l2] [] h Q = Q (.inl none) h := en_return mm25 dX2_moveToQuench_45 rfl
abbrev em26 : MI := (yX2_moveToNext, cX2_moveToNext, 4, none, 2, [])
theorem mm26 : mtab[26]? = some em26 := rfl
theorem in26 {d : Nat} {h : AH} {K : AO → AH → Prop} {v0 : Nat} {v1 : Int32} {v2 : Int32} : EvM d 26 [(.ref v0), (.int v1), (.int v2)] h K = Ev d 26 0 [some (.ref v0), some (.int v1), some (.int v2), none] [] h K := evm_in mm26 (of_decide_eq_true rfl) rfl
theorem i26_0 {d l0 l2 l3 t x h Q} : Ev d 26 0 [l0, some (.int x), l2, l3] t h Q = Ev d 26 1 [l0, some (.int x), l2, l3] (.int x :: t) h Q := en_iload_n mm26 dX2_moveToNext_0 rfl
theorem i26_1 {d l0 l1 l2 l3 t h Q} : Ev d 26 1 [l0, l1, l2, l3] t h Q = Ev d 26 2 [l0, l1, l2, l3] (.int 1 :: t) h Q := en_iconst mm26 dX2_moveToNext_1 (by decide)
theorem i26_2 {d l0 l1 l2 l3 t x y h Q} : Ev d 26 2 [l0, l1, l2, l3] (.int y :: .int x :: t) h Q = Ev d 26 3 [l0, l1, l2, l3] (.int (x + y) :: t) h Q := en_iadd mm26 dX2_moveToNext_2
theorem i26_3 {d l0 l1 l2 l3 t x h Q} : Ev d 26 3 [l0, l1, l2, l3] (.int x :: t) h Q = Ev d 26 4 [l0, l1, nl l2, some (.int x)] t h Q := en_istore_n mm26 dX2_moveToNext_3 (of_decide_eq_true rfl) rfl
theorem i26_4 {d l0 l1 l2 t x h Q} : Ev d 26 4 [l0, l1, l2, some (.int x)] t h Q = Ev d 26 5 [l0, l1, l2, some (.int x)] (.int x :: t) h Q := en_iload_n mm26 dX2_moveToNext_4 rfl
theorem i26_5 {d a l1 l2 l3 t h Q} : Ev d 26 5 [some (.ref a), l1, l2, l3] t h Q = Ev d 26 6 [some (.ref a), l1, l2, l3] (.ref a :: t) h Q := en_aload_n mm26 dX2_moveToNext_5 rfl
theorem i26_6 {d a l0 l1 l2 l3 t h Q} : Ev d 26 6 [l0, l1, l2, l3] (.ref a :: t) h Q = (hk h a = 3 ∧ Ev d 26 9 [l0, l1, l2, l3] (hF h a 0 :: t) h Q) := en_getfield (cj := 2) mm26 dX2_moveToNext_6 (by decide +kernel)
theorem i26_9 {d a l0 l1 l2 l3 t h Q} : Ev d 26 9 [l0, l1, l2, l3] (.ref a :: t) h Q = (hk h a = 4 ∧ Ev d 26 12 [l0, l1, l2, l3] (hF h a 0 :: t) h Q) := en_getfield (cj := 3) mm26 dX2_moveToNext_9 (by decide +kernel)
theorem i26_12 {d l0 l1 l2 l3 t x y h Q} : Ev d 26 12 [l0, l1, l2, l3] (.int y :: .int x :: t) h Q = if y ≤ x then Ev d 26 39 [l0, l1, l2, l3] t h Q else Ev d 26 15 [l0, l1, l2, l3] t h Q := en_ic_ge mm26 dX2_moveToNext_12 rfl
theorem i26_15 {d a l1 l2 l3 t h Q} : Ev d 26 15 [some (.ref a), l1, l2, l3] t h Q = Ev d 26 16 [some (.ref a), l1, l2, l3] (.ref a :: t) h Q := en_aload_n mm26 dX2_moveToNext_15 rfl
theorem i26_16 {d a l0 l1 l2 l3 t h Q} : Ev d 26 16 [l0, l1, l2, l3] (.ref a :: t) h Q = (hk h a = 3 ∧ Ev d 26 19 [l0, l1, l2, l3] (hF h a 7 :: t) h Q) := en_getfield (cj := 2) mm26 dX2_moveToNext_16 (by decide +kernel)
theorem i26_19 {d l0 l1 l2 t x h Q} : Ev d 26 19 [l0, l1, l2, some (.int x)] t h Q = Ev d 26 20 [l0, l1, l2, some (.int x)] (.int x :: t) h Q := en_iload_n mm26 dX2_moveToNext_19 rfl
theorem i26_20 {d a j l0 l1 l2 l3 t h Q} : Ev d 26 20 [l0, l1, l2, l3] (.int j :: .ref a :: t) h Q = (hk h a = 10 ∧ inb j (hl h a) ∧ Ev d 26 21 [l0, l1, l2, l3] (.int (hA h a j.toNatClampNeg) :: t) h Q) := en_iaload mm26 dX2_moveToNext_20
theorem i26_21 {d l0 l1 l2 l3 t h Q} : Ev d 26 21 [l0, l1, l2, l3] t h Q = Ev d 26 22 [l0, l1, l2, l3] (.int (-1) :: t) h Q := en_iconst mm26 dX2_moveToNext_21 (by decide)
theorem i26_22 {d l0 l1 l2 l3 t x y h Q} : Ev d 26 22 [l0, l1, l2, l3] (.int y :: .int x :: t) h Q = if x = y then Ev d 26 25 [l0, l1, l2, l3] t h Q else Ev d 26 39 [l0, l1, l2, l3] t h Q := en_ic_ne mm26 dX2_moveToNext_22 rfl
theorem i26_25 {d a l1 l2 l3 t h Q} : Ev d 26 25 [some (.ref a), l1, l2, l3] t h Q = Ev d 26 26 [some (.ref a), l1, l2, l3] (.ref a :: t) h Q := en_aload_n mm26 dX2_moveToNext_25 rfl
theorem i26_26 {d a l0 l1 l2 l3 t h Q} : Ev d 26 26 [l0, l1, l2, l3] (.ref a :: t) h Q = (hk h a = 3 ∧ Ev d 26 29 [l0, l1, l2, l3] (hF h a 7 :: t) h Q) := en_getfield (cj := 2) mm26 dX2_moveToNext_26 (by decide +kernel)
theorem i26_29 {d l0 l2 l3 t x h Q} : Ev d 26 29 [l0, some (.int x), l2, l3] t h Q = Ev d 26 30 [l0, some (.int x), l2, l3] (.int x :: t) h Q := en_iload_n mm26 dX2_moveToNext_29 rfl
theorem i26_30 {d l0 l1 l2 l3 t h Q} : Ev d 26 30 [l0, l1, l2, l3] t h Q = Ev d 26 31 [l0, l1, l2, l3] (.int (-1) :: t) h Q := en_iconst mm26 dX2_moveToNext_30 (by decide)
theorem i26_31 {d a j l0 l1 l2 l3 t x h Q} : Ev d 26 31 [l0, l1, l2, l3] (.int x :: .int j :: .ref a :: t) h Q = (hk h a = 10 ∧ inb j (hl h a) ∧ Ev d 26 32 [l0, l1, l2, l3] t (wA h a (upd (hA h a) j.toNatClampNeg x)) Q) := en_iastore mm26 dX2_moveToNext_31
theorem i26_32 {d a l1 l2 l3 t h Q} : Ev d 26 32 [some (.ref a), l1, l2, l3] t h Q = Ev d 26 33 [some (.ref a), l1, l2, l3] (.ref a :: t) h Q := en_aload_n mm26 dX2_moveToNext_32 rfl
theorem i26_33 {d a l0 l1 l2 l3 t h Q} : Ev d 26 33 [l0, l1, l2, l3] (.ref a :: t) h Q = (hk h a = 3 ∧ Ev d 26 36 [l0, l1, l2, l3] (hF h a 7 :: t) h Q) := en_getfield (cj := 2) mm26 dX2_moveToNext_33 (by decide +kernel)
theorem i26_36 {d l0 l1 l2 t x h Q} : Ev d 26 36 [l0, l1, l2, some (.int x)] t h Q = Ev d 26 37 [l0, l1, l2, some (.int x)] (.int x :: t) h Q := en_iload_n mm26 dX2_moveToNext_36 rfl
theorem i26_37 {d l0 l1 l3 t x h Q} : Ev d 26 37 [l0, l1, some (.int x), l3] t h Q = Ev d 26 38 [l0, l1, some (.int x), l3] (.int x :: t) h Q := en_iload_n mm26 dX2_moveToNext_37 rfl
theorem i26_38 {d a j l0 l1 l2 l3 t x h Q} : Ev d 26 38 [l0, l1, l2, l3] (.int x :: .int j :: .ref a :: t) h Q = (hk h a = 10 ∧ inb j (hl h a) ∧ Ev d 26 39 [l0, l1, l2, l3] t (wA h a (upd (hA h a) j.toNatClampNeg x)) Q) := en_iastore mm26 dX2_moveToNext_38
theorem i26_39 {d l0 l1 l2 l3 h Q} : Ev d 26 39 [l0, l1, l2, l3] [] h Q = Q (.inl none) h := en_return mm26 dX2_moveToNext_39 rfl
abbrev em27 : MI := (yX2_fillFirstZone, cX2_fillFirstZone, 2, none, 2, [])
theorem mm27 : mtab[27]? = some em27 := rfl
theorem in27 {d : Nat} {h : AH} {K : AO → AH → Prop} {v0 : Nat} : EvM d 27 [(.ref v0)] h K = Ev d 27 0 [some (.ref v0), none] [] h K := evm_in mm27 (of_decide_eq_true rfl) rfl
theorem i27_0 {d a l1 t h Q} : Ev d 27 0 [some (.ref a), l1] t h Q = Ev d 27 1 [some (.ref a), l1] (.ref a :: t) h Q := en_aload_n mm27 dX2_fillFirstZone_0 rfl
theorem i27_1 {d a l0 l1 h Q} : Ev (d + 1) 27 1 [l0, l1] [.ref a] h Q = (hk h a = 3 ∧ EvM d 7 [.ref a] h (konN (d + 1) 27 4 [l0, l1] [] Q)) := en_virtualN mm27 dX2_fillFirstZone_1 (by decide +kernel : ml _ _ = some (2, 7)) (by decide) (rfl : mtab[7]? = some _) (by decide +kernel : npar _ = 0) rfl (by decide) rfl (of_decide_eq_true rfl) (len_cat (of_decide_eq_true rfl)) rfl rfl rfl
theorem i27_4 {d l0 l1 t x h Q} : Ev d 27 4 [l0, l1] (.int x :: t) h Q = if x = 0 then Ev d 27 17 [l0, l1] t h Q else Ev d 27 7 [l0, l1] t h Q := en_if_eq mm27 dX2_fillFirstZone_4 rfl
theorem i27_7 {d a l1 t h Q} : Ev d 27 7 [some (.ref a), l1] t h Q = Ev d 27 8 [some (.ref a), l1] (.ref a :: t) h Q := en_aload_n mm27 dX2_fillFirstZone_7 rfl
theorem i27_8 {d a l0 l1 t h Q} : Ev d 27 8 [l0, l1] (.ref a :: t) h Q = (hk h a = 3 ∧ Ev d 27 11 [l0, l1] (hF h a 7 :: t) h Q) := en_getfield (cj := 2) mm27 dX2_fillFirstZone_8 (by decide +kernel)
theorem i27_11 {d l0 l1 t h Q} : Ev d 27 11 [l0, l1] t h Q = Ev d 27 12 [l0, l1] (.int 0 :: t) h Q := en_iconst mm27 dX2_fillFirstZone_11 (by decide)
theorem i27_12 {d a j l0 l1 t h Q} : Ev d 27 12 [l0, l1] (.int j :: .ref a :: t) h Q = (hk h a = 10 ∧ inb j (hl h a) ∧ Ev d 27 13 [l0, l1] (.int (hA h a j.toNatClampNeg) :: t) h Q) := en_iaload mm27 dX2_fillFirstZone_12
theorem i27_13 {d l0 l1 t h Q} : Ev d 27 13 [l0, l1] t h Q = Ev d 27 14 [l0, l1] (.int (-1) :: t) h Q := en_iconst mm27 dX2_fillFirstZone_13 (by decide)
theorem i27_14 {d l0 l1 t x y h Q} : Ev d 27 14 [l0, l1] (.int y :: .int x :: t) h Q = if x = y then Ev d 27 18 [l0, l1] t h Q else Ev d 27 17 [l0, l1] t h Q := en_ic_eq mm27 dX2_fillFirstZone_14 rfl
theorem i27_17 {d l0 l1 h Q} : Ev d 27 17 [l0, l1] [] h Q = Q (.inl none) h := en_return mm27 dX2_fillFirstZone_17 rfl
theorem i27_18 {d l0 l1 t h Q} : Ev d 27 18 [l0, l1] t h Q = Ev d 27 19 [l0, l1] (.int 0 :: t) h Q := en_iconst mm27 dX2_fillFirstZone_18 (by decide)
theorem i27_19 {d l0 l1 t x h Q} : Ev d 27 19 [l0, l1] (.int x :: t) h Q = Ev d 27 20 [nl l0, some (.int x)] t h Q := en_istore_n mm27 dX2_fillFirstZone_19 (of_decide_eq_true rfl) rfl
theorem i27_20 {d l0 t x h Q} : Ev d 27 20 [l0, some (.int x)] t h Q = Ev d 27 21 [l0, some (.int x)] (.int x :: t) h Q := en_iload_n mm27 dX2_fillFirstZone_20 rfl
theorem i27_21 {d a l1 t h Q} : Ev d 27 21 [some (.ref a), l1] t h Q = Ev d 27 22 [some (.ref a), l1] (.ref a :: t) h Q := en_aload_n mm27 dX2_fillFirstZone_21 rfl
theorem i27_22 {d a l0 l1 t h Q} : Ev d 27 22 [l0, l1] (.ref a :: t) h Q = (hk h a = 3 ∧ Ev d 27 25 [l0, l1] (hF h a 2 :: t) h Q) := en_getfield (cj := 2) mm27 dX2_fillFirstZone_22 (by decide +kernel)
theorem i27_25 {d l0 l1 t x y h Q} : Ev d 27 25 [l0, l1] (.int y :: .int x :: t) h Q = if y ≤ x then Ev d 27 58 [l0, l1] t h Q else Ev d 27 28 [l0, l1] t h Q := en_ic_ge mm27 dX2_fillFirstZone_25 rfl
theorem i27_28 {d a l1 t h Q} : Ev d 27 28 [some (.ref a), l1] t h Q = Ev d 27 29 [some (.ref a), l1] (.ref a :: t) h Q := en_aload_n mm27 dX2_fillFirstZone_28 rfl
theorem i27_29 {d a l0 l1 t h Q} : Ev d 27 29 [l0, l1] (.ref a :: t) h Q = (hk h a = 3 ∧ Ev d 27 32 [l0, l1] (hF h a 10 :: t) h Q) := en_getfield (cj := 2) mm27 dX2_fillFirstZone_29 (by decide +kernel)
theorem i27_32 {d l0 t x h Q} : Ev d 27 32 [l0, some (.int x)] t h Q = Ev d 27 33 [l0, some (.int x)] (.int x :: t) h Q := en_iload_n mm27 dX2_fillFirstZone_32 rfl
theorem i27_33 {d a j l0 l1 t h Q} : Ev d 27 33 [l0, l1] (.int j :: .ref a :: t) h Q = (hk h a = 10 ∧ inb j (hl h a) ∧ Ev d 27 34 [l0, l1] (.int (hA h a j.toNatClampNeg) :: t) h Q) := en_iaload mm27 dX2_fillFirstZone_33
theorem i27_34 {d l0 l1 t x h Q} : Ev d 27 34 [l0, l1] (.int x :: t) h Q = if x = 0 then Ev d 27 37 [l0, l1] t h Q else Ev d 27 52 [l0, l1] t h Q := en_if_ne mm27 dX2_fillFirstZone_34 rfl
theorem i27_37 {d a l1 t h Q} : Ev d 27 37 [some (.ref a), l1] t h Q = Ev d 27 38 [some (.ref a), l1] (.ref a :: t) h Q := en_aload_n mm27 dX2_fillFirstZone_37 rfl
theorem i27_38 {d a l0 l1 t h Q} : Ev d 27 38 [l0, l1] (.ref a :: t) h Q = (hk h a = 3 ∧ Ev d 27 41 [l0, l1] (hF h a 10 :: t) h Q) := en_getfield (cj := 2) mm27 dX2_fillFirstZone_38 (by decide +kernel)
theorem i27_41 {d l0 t x h Q} : Ev d 27 41 [l0, some (.int x)] t h Q = Ev d 27 42 [l0, some (.int x)] (.int x :: t) h Q := en_iload_n mm27 dX2_fillFirstZone_41 rfl
theorem i27_42 {d l0 l1 t h Q} : Ev d 27 42 [l0, l1] t h Q = Ev d 27 43 [l0, l1] (.int 1 :: t) h Q := en_iconst mm27 dX2_fillFirstZone_42 (by decide)
theorem i27_43 {d a j l0 l1 t x h Q} : Ev d 27 43 [l0, l1] (.int x :: .int j :: .ref a :: t) h Q = (hk h a = 10 ∧ inb j (hl h a) ∧ Ev d 27 44 [l0, l1] t (wA h a (upd (hA h a) j.toNatClampNeg x)) Q) := en_iastore mm27 dX2_fillFirstZone_43
theorem i27_44 {d a l1 t h Q} : Ev d 27 44 [some (.ref a), l1] t h Q = Ev d 27 45 [some (.ref a), l1] (.ref a :: t) h Q := en_aload_n mm27 dX2_fillFirstZone_44 rfl
theorem i27_45 {d a l0 l1 t h Q} : Ev d 27 45 [l0, l1] (.ref a :: t) h Q = (hk h a = 3 ∧ Ev d 27 48 [l0, l1] (hF h a 7 :: t) h Q) := en_getfield (cj := 2) mm27 dX2_fillFirstZone_45 (by decide +kernel)
theorem i27_48 {d l0 l1 t h Q} : Ev d 27 48 [l0, l1] t h Q = Ev d 27 49 [l0, l1] (.int 0 :: t) h Q := en_iconst mm27 dX2_fillFirstZone_48 (by decide)
theorem i27_49 {d l0 t x h Q} : Ev d 27 49 [l0, some (.int x)] t h Q = Ev d 27 50 [l0, some (.int x)] (.int x :: t) h Q := en_iload_n mm27 dX2_fillFirstZone_49 rfl
theorem i27_50 {d a j l0 l1 t x h Q} : Ev d 27 50 [l0, l1] (.int x :: .int j :: .ref a :: t) h Q = (hk h a = 10 ∧ inb j (hl h a) ∧ Ev d 27 51 [l0, l1] t (wA h a (upd (hA h a) j.toNatClampNeg x)) Q) := en_iastore mm27 dX2_fillFirstZone_50
theorem i27_51 {d l0 l1 h Q} : Ev d 27 51 [l0, l1] [] h Q = Q (.inl none) h := en_return mm27 dX2_fillFirstZone_51 rfl
theorem i27_52 {d l0 t x h Q} : Ev d 27 52 [l0, some (.int x)] t h Q = Ev d 27 55 [nl l0, some (.int (x + 1))] t h Q := en_iinc mm27 dX2_fillFirstZone_52 rfl (by decide) rfl
theorem i27_55 {d l0 l1 t h Q} : Ev d 27 55 [l0, l1] t h Q = Ev d 27 20 [l0, l1] t h Q := en_goto mm27 dX2_fillFirstZone_55 rfl
theorem i27_58 {d l0 l1 h Q} : Ev d 27 58 [l0, l1] [] h Q = Q (.inl none) h := en_return mm27 dX2_fillFirstZone_58 rfl
abbrev em28 : MI := (yX2_spoil, cX2_spoil, 3, none, 2, [])
theorem mm28 : mtab[28]? = some em28 := rfl
theorem in28 {d : Nat} {h : AH} {K : AO → AH → Prop} {v0 : Nat} {v1 : Int32} : EvM d 28 [(.ref v0), (.int v1)] h K = Ev d 28 0 [some (.ref v0), some (.int v1), none] [] h K := evm_in mm28 (of_decide_eq_true rfl) rfl
theorem i28_0 {d a l1 l2 t h Q} : Ev d 28 0 [some (.ref a), l1, l2] t h Q = Ev d 28 1 [some (.ref a), l1, l2] (.ref a :: t) h Q := en_aload_n mm28 dX2_spoil_0 rfl
theorem i28_1 {d a l0 l1 l2 t h Q} : Ev d 28 1 [l0, l1, l2] (.ref a :: t) h Q = (hk h a = 3 ∧ Ev d 28 4 [l0, l1, l2] (hF h a 10 :: t) h Q) := en_getfield (cj := 2) mm28 dX2_spoil_1 (by decide +kernel)
theorem i28_4 {d l0 l2 t x h Q} : Ev d 28 4 [l0, some (.int x), l2] t h Q = Ev d 28 5 [l0, some (.int x), l2] (.int x :: t) h Q := en_iload_n mm28 dX2_spoil_4 rfl
theorem i28_5 {d l0 l1 l2 t h Q} : Ev d 28 5 [l0, l1, l2] t h Q = Ev d 28 6 [l0, l1, l2] (.int 5 :: t) h Q := en_iconst mm28 dX2_spoil_5 (by decide)
theorem i28_6 {d a j l0 l1 l2 t x h Q} : Ev d 28 6 [l0, l1, l2] (.int x :: .int j :: .ref a :: t) h Q = (hk h a = 10 ∧ inb j (hl h a) ∧ Ev d 28 7 [l0, l1, l2] t (wA h a (upd (hA h a) j.toNatClampNeg x)) Q) := en_iastore mm28 dX2_spoil_6
theorem i28_7 {d l0 l1 l2 t h Q} : Ev d 28 7 [l0, l1, l2] t h Q = Ev d 28 8 [l0, l1, l2] (.int 0 :: t) h Q := en_iconst mm28 dX2_spoil_7 (by decide)
theorem i28_8 {d l0 l1 l2 t x h Q} : Ev d 28 8 [l0, l1, l2] (.int x :: t) h Q = Ev d 28 9 [l0, nl l1, some (.int x)] t h Q := en_istore_n mm28 dX2_spoil_8 (of_decide_eq_true rfl) rfl
theorem i28_9 {d l0 l1 t x h Q} : Ev d 28 9 [l0, l1, some (.int x)] t h Q = Ev d 28 10 [l0, l1, some (.int x)] (.int x :: t) h Q := en_iload_n mm28 dX2_spoil_9 rfl
theorem i28_10 {d a l1 l2 t h Q} : Ev d 28 10 [some (.ref a), l1, l2] t h Q = Ev d 28 11 [some (.ref a), l1, l2] (.ref a :: t) h Q := en_aload_n mm28 dX2_spoil_10 rfl
theorem i28_11 {d a l0 l1 l2 t h Q} : Ev d 28 11 [l0, l1, l2] (.ref a :: t) h Q = (hk h a = 3 ∧ Ev d 28 14 [l0, l1, l2] (hF h a 0 :: t) h Q) := en_getfield (cj := 2) mm28 dX2_spoil_11 (by decide +kernel)
theorem i28_14 {d a l0 l1 l2 t h Q} : Ev d 28 14 [l0, l1, l2] (.ref a :: t) h Q = (hk h a = 4 ∧ Ev d 28 17 [l0, l1, l2] (hF h a 0 :: t) h Q) := en_getfield (cj := 3) mm28 dX2_spoil_14 (by decide +kernel)
theorem i28_17 {d l0 l1 l2 t x y h Q} : Ev d 28 17 [l0, l1, l2] (.int y :: .int x :: t) h Q = if y ≤ x then Ev d 28 43 [l0, l1, l2] t h Q else Ev d 28 20 [l0, l1, l2] t h Q := en_ic_ge mm28 dX2_spoil_17 rfl
theorem i28_20 {d a l1 l2 t h Q} : Ev d 28 20 [some (.ref a), l1, l2] t h Q = Ev d 28 21 [some (.ref a), l1, l2] (.ref a :: t) h Q := en_aload_n mm28 dX2_spoil_20 rfl
theorem i28_21 {d a l0 l1 l2 t h Q} : Ev d 28 21 [l0, l1, l2] (.ref a :: t) h Q = (hk h a = 3 ∧ Ev d 28 24 [l0, l1, l2] (hF h a 7 :: t) h Q) := en_getfield (cj := 2) mm28 dX2_spoil_21 (by decide +kernel)
theorem i28_24 {d l0 l1 t x h Q} : Ev d 28 24 [l0, l1, some (.int x)] t h Q = Ev d 28 25 [l0, l1, some (.int x)] (.int x :: t) h Q := en_iload_n mm28 dX2_spoil_24 rfl
theorem i28_25 {d a j l0 l1 l2 t h Q} : Ev d 28 25 [l0, l1, l2] (.int j :: .ref a :: t) h Q = (hk h a = 10 ∧ inb j (hl h a) ∧ Ev d 28 26 [l0, l1, l2] (.int (hA h a j.toNatClampNeg) :: t) h Q) := en_iaload mm28 dX2_spoil_25
theorem i28_26 {d l0 l2 t x h Q} : Ev d 28 26 [l0, some (.int x), l2] t h Q = Ev d 28 27 [l0, some (.int x), l2] (.int x :: t) h Q := en_iload_n mm28 dX2_spoil_26 rfl
theorem i28_27 {d l0 l1 l2 t x y h Q} : Ev d 28 27 [l0, l1, l2] (.int y :: .int x :: t) h Q = if x = y then Ev d 28 30 [l0, l1, l2] t h Q else Ev d 28 37 [l0, l1, l2] t h Q := en_ic_ne mm28 dX2_spoil_27 rfl
theorem i28_30 {d a l1 l2 t h Q} : Ev d 28 30 [some (.ref a), l1, l2] t h Q = Ev d 28 31 [some (.ref a), l1, l2] (.ref a :: t) h Q := en_aload_n mm28 dX2_spoil_30 rfl
theorem i28_31 {d a l0 l1 l2 t h Q} : Ev d 28 31 [l0, l1, l2] (.ref a :: t) h Q = (hk h a = 3 ∧ Ev d 28 34 [l0, l1, l2] (hF h a 7 :: t) h Q) := en_getfield (cj := 2) mm28 dX2_spoil_31 (by decide +kernel)
theorem i28_34 {d l0 l1 t x h Q} : Ev d 28 34 [l0, l1, some (.int x)] t h Q = Ev d 28 35 [l0, l1, some (.int x)] (.int x :: t) h Q := en_iload_n mm28 dX2_spoil_34 rfl
theorem i28_35 {d l0 l1 l2 t h Q} : Ev d 28 35 [l0, l1, l2] t h Q = Ev d 28 36 [l0, l1, l2] (.int (-1) :: t) h Q := en_iconst mm28 dX2_spoil_35 (by decide)
theorem i28_36 {d a j l0 l1 l2 t x h Q} : Ev d 28 36 [l0, l1, l2] (.int x :: .int j :: .ref a :: t) h Q = (hk h a = 10 ∧ inb j (hl h a) ∧ Ev d 28 37 [l0, l1, l2] t (wA h a (upd (hA h a) j.toNatClampNeg x)) Q) := en_iastore mm28 dX2_spoil_36
theorem i28_37 {d l0 l1 t x h Q} : Ev d 28 37 [l0, l1, some (.int x)] t h Q = Ev d 28 40 [l0, nl l1, some (.int (x + 1))] t h Q := en_iinc mm28 dX2_spoil_37 rfl (by decide) rfl
theorem i28_40 {d l0 l1 l2 t h Q} : Ev d 28 40 [l0, l1, l2] t h Q = Ev d 28 9 [l0, l1, l2] t h Q := en_goto mm28 dX2_spoil_40 rfl
theorem i28_43 {d l0 l1 l2 h Q} : Ev d 28 43 [l0, l1, l2] [] h Q = Q (.inl none) h := en_return mm28 dX2_spoil_43 rfl
abbrev em29 : MI := (yX2_digest, cX2_digest, 4, some .long, 2, [])
theorem mm29 : mtab[29]? = some em29 := rfl
theorem in29 {d : Nat} {h : AH} {K : AO → AH → Prop} {v0 : Nat} : EvM d 29 [(.ref v0)] h K = Ev d 29 0 [some (.ref v0), none, none, none] [] h K := evm_in mm29 (of_decide_eq_true rfl) rfl
theorem i29_0 {d a l1 l2 l3 t h Q} : Ev d 29 0 [some (.ref a), l1, l2, l3] t h Q = Ev d 29 1 [some (.ref a), l1, l2, l3] (.ref a :: t) h Q := en_aload_n mm29 dX2_digest_0 rfl
theorem i29_1 {d a l0 l1 l2 l3 t h Q} : Ev d 29 1 [l0, l1, l2, l3] (.ref a :: t) h Q = (hk h a = 3 ∧ Ev d 29 4 [l0, l1, l2, l3] (hF h a 1 :: t) h Q) := en_getfield (cj := 2) mm29 dX2_digest_1 (by decide +kernel)
theorem i29_4 {d l0 l1 l2 l3 t x h Q} : Ev d 29 4 [l0, l1, l2, l3] (.int x :: t) h Q = Ev d 29 5 [l0, l1, l2, l3] (.long x.toInt64 :: t) h Q := en_i2l mm29 dX2_digest_4
theorem i29_5 {d l0 l1 l2 l3 t x h Q} : Ev d 29 5 [l0, l1, l2, l3] (.long x :: t) h Q = Ev d 29 6 [nl l0, some (.long x), none, l3] t h Q := en_lstore_n mm29 dX2_digest_5 (of_decide_eq_true rfl) rfl
theorem i29_6 {d l0 l1 l2 l3 t h Q} : Ev d 29 6 [l0, l1, l2, l3] t h Q = Ev d 29 7 [l0, l1, l2, l3] (.int 0 :: t) h Q := en_iconst mm29 dX2_digest_6 (by decide)
theorem i29_7 {d l0 l1 l2 l3 t x h Q} : Ev d 29 7 [l0, l1, l2, l3] (.int x :: t) h Q = Ev d 29 8 [l0, l1, nl l2, some (.int x)] t h Q := en_istore_n mm29 dX2_digest_7 (of_decide_eq_true rfl) rfl
theorem i29_8 {d l0 l1 l2 t x h Q} : Ev d 29 8 [l0, l1, l2, some (.int x)] t h Q = Ev d 29 9 [l0, l1, l2, some (.int x)] (.int x :: t) h Q := en_iload_n mm29 dX2_digest_8 rfl
theorem i29_9 {d a l1 l2 l3 t h Q} : Ev d 29 9 [some (.ref a), l1, l2, l3] t h Q = Ev d 29 10 [some (.ref a), l1, l2, l3] (.ref a :: t) h Q := en_aload_n mm29 dX2_digest_9 rfl
theorem i29_10 {d a l0 l1 l2 l3 t h Q} : Ev d 29 10 [l0, l1, l2, l3] (.ref a :: t) h Q = (hk h a = 3 ∧ Ev d 29 13 [l0, l1, l2, l3] (hF h a 0 :: t) h Q) := en_getfield (cj := 2) mm29 dX2_digest_10 (by decide +kernel)
theorem i29_13 {d a l0 l1 l2 l3 t h Q} : Ev d 29 13 [l0, l1, l2, l3] (.ref a :: t) h Q = (hk h a = 4 ∧ Ev d 29 16 [l0, l1, l2, l3] (hF h a 0 :: t) h Q) := en_getfield (cj := 3) mm29 dX2_digest_13 (by decide +kernel)
theorem i29_16 {d l0 l1 l2 l3 t x y h Q} : Ev d 29 16 [l0, l1, l2, l3] (.int y :: .int x :: t) h Q = if y ≤ x then Ev d 29 67 [l0, l1, l2, l3] t h Q else Ev d 29 19 [l0, l1, l2, l3] t h Q := en_ic_ge mm29 dX2_digest_16 rfl
theorem i29_19 {d l0 l1 l2 l3 t h Q} : Ev d 29 19 [l0, l1, l2, l3] t h Q = Ev d 29 22 [l0, l1, l2, l3] (.long 31 :: t) h Q := en_ldc2 mm29 dX2_digest_19 (by decide +kernel : look _ cstLT = some (1292, 31)) (by decide)
theorem i29_22 {d l0 l2 l3 t x h Q} : Ev d 29 22 [l0, some (.long x), l2, l3] t h Q = Ev d 29 23 [l0, some (.long x), l2, l3] (.long x :: t) h Q := en_lload_n mm29 dX2_digest_22 rfl
theorem i29_23 {d l0 l1 l2 l3 t x y h Q} : Ev d 29 23 [l0, l1, l2, l3] (.long y :: .long x :: t) h Q = Ev d 29 24 [l0, l1, l2, l3] (.long (x * y) :: t) h Q := en_lmul mm29 dX2_digest_23
theorem i29_24 {d a l1 l2 l3 t h Q} : Ev d 29 24 [some (.ref a), l1, l2, l3] t h Q = Ev d 29 25 [some (.ref a), l1, l2, l3] (.ref a :: t) h Q := en_aload_n mm29 dX2_digest_24 rfl
theorem i29_25 {d a l0 l1 l2 l3 t h Q} : Ev d 29 25 [l0, l1, l2, l3] (.ref a :: t) h Q = (hk h a = 3 ∧ Ev d 29 28 [l0, l1, l2, l3] (hF h a 5 :: t) h Q) := en_getfield (cj := 2) mm29 dX2_digest_25 (by decide +kernel)
theorem i29_28 {d l0 l1 l2 t x h Q} : Ev d 29 28 [l0, l1, l2, some (.int x)] t h Q = Ev d 29 29 [l0, l1, l2, some (.int x)] (.int x :: t) h Q := en_iload_n mm29 dX2_digest_28 rfl
theorem i29_29 {d a j l0 l1 l2 l3 t h Q} : Ev d 29 29 [l0, l1, l2, l3] (.int j :: .ref a :: t) h Q = (hk h a = 10 ∧ inb j (hl h a) ∧ Ev d 29 30 [l0, l1, l2, l3] (.int (hA h a j.toNatClampNeg) :: t) h Q) := en_iaload mm29 dX2_digest_29
theorem i29_30 {d l0 l1 l2 l3 t x h Q} : Ev d 29 30 [l0, l1, l2, l3] (.int x :: t) h Q = Ev d 29 31 [l0, l1, l2, l3] (.long x.toInt64 :: t) h Q := en_i2l mm29 dX2_digest_30
theorem i29_31 {d l0 l1 l2 l3 t x y h Q} : Ev d 29 31 [l0, l1, l2, l3] (.long y :: .long x :: t) h Q = Ev d 29 32 [l0, l1, l2, l3] (.long (x + y) :: t) h Q := en_ladd mm29 dX2_digest_31
theorem i29_32 {d l0 l1 l2 l3 t x h Q} : Ev d 29 32 [l0, l1, l2, l3] (.long x :: t) h Q = Ev d 29 33 [nl l0, some (.long x), none, l3] t h Q := en_lstore_n mm29 dX2_digest_32 (of_decide_eq_true rfl) rfl
theorem i29_33 {d l0 l1 l2 l3 t h Q} : Ev d 29 33 [l0, l1, l2, l3] t h Q = Ev d 29 36 [l0, l1, l2, l3] (.long 31 :: t) h Q := en_ldc2 mm29 dX2_digest_33 (by decide +kernel : look _ cstLT = some (1292, 31)) (by decide)
theorem i29_36 {d l0 l2 l3 t x h Q} : Ev d 29 36 [l0, some (.long x), l2, l3] t h Q = Ev d 29 37 [l0, some (.long x), l2, l3] (.long x :: t) h Q := en_lload_n mm29 dX2_digest_36 rfl
theorem i29_37 {d l0 l1 l2 l3 t x y h Q} : Ev d 29 37 [l0, l1, l2, l3] (.long y :: .long x :: t) h Q = Ev d 29 38 [l0, l1, l2, l3] (.long (x * y) :: t) h Q := en_lmul mm29 dX2_digest_37
theorem i29_38 {d a l1 l2 l3 t h Q} : Ev d 29 38 [some (.ref a), l1, l2, l3] t h Q = Ev d 29 39 [some (.ref a), l1, l2, l3] (.ref a :: t) h Q := en_aload_n mm29 dX2_digest_38 rfl
theorem i29_39 {d a l0 l1 l2 l3 t h Q} : Ev d 29 39 [l0, l1, l2, l3] (.ref a :: t) h Q = (hk h a = 3 ∧ Ev d 29 42 [l0, l1, l2, l3] (hF h a 6 :: t) h Q) := en_getfield (cj := 2) mm29 dX2_digest_39 (by decide +kernel)
theorem i29_42 {d l0 l1 l2 t x h Q} : Ev d 29 42 [l0, l1, l2, some (.int x)] t h Q = Ev d 29 43 [l0, l1, l2, some (.int x)] (.int x :: t) h Q := en_iload_n mm29 dX2_digest_42 rfl
theorem i29_43 {d a j l0 l1 l2 l3 t h Q} : Ev d 29 43 [l0, l1, l2, l3] (.int j :: .ref a :: t) h Q = (hk h a = 10 ∧ inb j (hl h a) ∧ Ev d 29 44 [l0, l1, l2, l3] (.int (hA h a j.toNatClampNeg) :: t) h Q) := en_iaload mm29 dX2_digest_43
theorem i29_44 {d l0 l1 l2 l3 t x h Q} : Ev d 29 44 [l0, l1, l2, l3] (.int x :: t) h Q = Ev d 29 45 [l0, l1, l2, l3] (.long x.toInt64 :: t) h Q := en_i2l mm29 dX2_digest_44
theorem i29_45 {d l0 l1 l2 l3 t x y h Q} : Ev d 29 45 [l0, l1, l2, l3] (.long y :: .long x :: t) h Q = Ev d 29 46 [l0, l1, l2, l3] (.long (x + y) :: t) h Q := en_ladd mm29 dX2_digest_45
theorem i29_46 {d l0 l1 l2 l3 t x h Q} : Ev d 29 46 [l0, l1, l2, l3] (.long x :: t) h Q = Ev d 29 47 [nl l0, some (.long x), none, l3] t h Q := en_lstore_n mm29 dX2_digest_46 (of_decide_eq_true rfl) rfl
theorem i29_47 {d l0 l1 l2 l3 t h Q} : Ev d 29 47 [l0, l1, l2, l3] t h Q = Ev d 29 50 [l0, l1, l2, l3] (.long 31 :: t) h Q := en_ldc2 mm29 dX2_digest_47 (by decide +kernel : look _ cstLT = some (1292, 31)) (by decide)
theorem i29_50 {d l0 l2 l3 t x h Q} : Ev d 29 50 [l0, some (.long x), l2, l3] t h Q = Ev d 29 51 [l0, some (.long x), l2, l3] (.long x :: t) h Q := en_lload_n mm29 dX2_digest_50 rfl
theorem i29_51 {d l0 l1 l2 l3 t x y h Q} : Ev d 29 51 [l0, l1, l2, l3] (.long y :: .long x :: t) h Q = Ev d 29 52 [l0, l1, l2, l3] (.long (x * y) :: t) h Q := en_lmul mm29 dX2_digest_51
theorem i29_52 {d a l1 l2 l3 t h Q} : Ev d 29 52 [some (.ref a), l1, l2, l3] t h Q = Ev d 29 53 [some (.ref a), l1, l2, l3] (.ref a :: t) h Q := en_aload_n mm29 dX2_digest_52 rfl
theorem i29_53 {d a l0 l1 l2 l3 t h Q} : Ev d 29 53 [l0, l1, l2, l3] (.ref a :: t) h Q = (hk h a = 3 ∧ Ev d 29 56 [l0, l1, l2, l3] (hF h a 7 :: t) h Q) := en_getfield (cj := 2) mm29 dX2_digest_53 (by decide +kernel)
theorem i29_56 {d l0 l1 l2 t x h Q} : Ev d 29 56 [l0, l1, l2, some (.int x)] t h Q = Ev d 29 57 [l0, l1, l2, some (.int x)] (.int x :: t) h Q := en_iload_n mm29 dX2_digest_56 rfl
theorem i29_57 {d a j l0 l1 l2 l3 t h Q} : Ev d 29 57 [l0, l1, l2, l3] (.int j :: .ref a :: t) h Q = (hk h a = 10 ∧ inb j (hl h a) ∧ Ev d 29 58 [l0, l1, l2, l3] (.int (hA h a j.toNatClampNeg) :: t) h Q) := en_iaload mm29 dX2_digest_57
theorem i29_58 {d l0 l1 l2 l3 t x h Q} : Ev d 29 58 [l0, l1, l2, l3] (.int x :: t) h Q = Ev d 29 59 [l0, l1, l2, l3] (.long x.toInt64 :: t) h Q := en_i2l mm29 dX2_digest_58
theorem i29_59 {d l0 l1 l2 l3 t x y h Q} : Ev d 29 59 [l0, l1, l2, l3] (.long y :: .long x :: t) h Q = Ev d 29 60 [l0, l1, l2, l3] (.long (x + y) :: t) h Q := en_ladd mm29 dX2_digest_59
theorem i29_60 {d l0 l1 l2 l3 t x h Q} : Ev d 29 60 [l0, l1, l2, l3] (.long x :: t) h Q = Ev d 29 61 [nl l0, some (.long x), none, l3] t h Q := en_lstore_n mm29 dX2_digest_60 (of_decide_eq_true rfl) rfl
theorem i29_61 {d l0 l1 l2 t x h Q} : Ev d 29 61 [l0, l1, l2, some (.int x)] t h Q = Ev d 29 64 [l0, l1, nl l2, some (.int (x + 1))] t h Q := en_iinc mm29 dX2_digest_61 rfl (by decide) rfl
theorem i29_64 {d l0 l1 l2 l3 t h Q} : Ev d 29 64 [l0, l1, l2, l3] t h Q = Ev d 29 8 [l0, l1, l2, l3] t h Q := en_goto mm29 dX2_digest_64 rfl
theorem i29_67 {d l0 l1 l2 l3 t h Q} : Ev d 29 67 [l0, l1, l2, l3] t h Q = Ev d 29 70 [l0, l1, l2, l3] (.long 31 :: t) h Q := en_ldc2 mm29 dX2_digest_67 (by decide +kernel : look _ cstLT = some (1292, 31)) (by decide)
theorem i29_70 {d l0 l2 l3 t x h Q} : Ev d 29 70 [l0, some (.long x), l2, l3] t h Q = Ev d 29 71 [l0, some (.long x), l2, l3] (.long x :: t) h Q := en_lload_n mm29 dX2_digest_70 rfl
theorem i29_71 {d l0 l1 l2 l3 t x y h Q} : Ev d 29 71 [l0, l1, l2, l3] (.long y :: .long x :: t) h Q = Ev d 29 72 [l0, l1, l2, l3] (.long (x * y) :: t) h Q := en_lmul mm29 dX2_digest_71
theorem i29_72 {d a l1 l2 l3 t h Q} : Ev d 29 72 [some (.ref a), l1, l2, l3] t h Q = Ev d 29 73 [some (.ref a), l1, l2, l3] (.ref a :: t) h Q := en_aload_n mm29 dX2_digest_72 rfl
theorem i29_73 {d a l0 l1 l2 l3 t h Q} : Ev d 29 73 [l0, l1, l2, l3] (.ref a :: t) h Q = (hk h a = 3 ∧ Ev d 29 76 [l0, l1, l2, l3] (hF h a 3 :: t) h Q) := en_getfield (cj := 2) mm29 dX2_digest_73 (by decide +kernel)
theorem i29_76 {d l0 l1 l2 l3 t x h Q} : Ev d 29 76 [l0, l1, l2, l3] (.int x :: t) h Q = Ev d 29 77 [l0, l1, l2, l3] (.long x.toInt64 :: t) h Q := en_i2l mm29 dX2_digest_76
theorem i29_77 {d l0 l1 l2 l3 t x y h Q} : Ev d 29 77 [l0, l1, l2, l3] (.long y :: .long x :: t) h Q = Ev d 29 78 [l0, l1, l2, l3] (.long (x + y) :: t) h Q := en_ladd mm29 dX2_digest_77
theorem i29_78 {d l0 l1 l2 l3 t x h Q} : Ev d 29 78 [l0, l1, l2, l3] (.long x :: t) h Q = Ev d 29 79 [nl l0, some (.long x), none, l3] t h Q := en_lstore_n mm29 dX2_digest_78 (of_decide_eq_true rfl) rfl
theorem i29_79 {d l0 l1 l2 l3 t h Q} : Ev d 29 79 [l0, l1, l2, l3] t h Q = Ev d 29 82 [l0, l1, l2, l3] (.long 31 :: t) h Q := en_ldc2 mm29 dX2_digest_79 (by decide +kernel : look _ cstLT = some (1292, 31)) (by decide)
theorem i29_82 {d l0 l2 l3 t x h Q} : Ev d 29 82 [l0, some (.long x), l2, l3] t h Q = Ev d 29 83 [l0, some (.long x), l2, l3] (.long x :: t) h Q := en_lload_n mm29 dX2_digest_82 rfl
theorem i29_83 {d l0 l1 l2 l3 t x y h Q} : Ev d 29 83 [l0, l1, l2, l3] (.long y :: .long x :: t) h Q = Ev d 29 84 [l0, l1, l2, l3] (.long (x * y) :: t) h Q := en_lmul mm29 dX2_digest_83
theorem i29_84 {d a l1 l2 l3 t h Q} : Ev d 29 84 [some (.ref a), l1, l2, l3] t h Q = Ev d 29 85 [some (.ref a), l1, l2, l3] (.ref a :: t) h Q := en_aload_n mm29 dX2_digest_84 rfl
theorem i29_85 {d a l0 l1 l2 l3 t h Q} : Ev d 29 85 [l0, l1, l2, l3] (.ref a :: t) h Q = (hk h a = 3 ∧ Ev d 29 88 [l0, l1, l2, l3] (hF h a 4 :: t) h Q) := en_getfield (cj := 2) mm29 dX2_digest_85 (by decide +kernel)
theorem i29_88 {d l0 l1 l2 l3 t x h Q} : Ev d 29 88 [l0, l1, l2, l3] (.int x :: t) h Q = Ev d 29 89 [l0, l1, l2, l3] (.long x.toInt64 :: t) h Q := en_i2l mm29 dX2_digest_88
theorem i29_89 {d l0 l1 l2 l3 t x y h Q} : Ev d 29 89 [l0, l1, l2, l3] (.long y :: .long x :: t) h Q = Ev d 29 90 [l0, l1, l2, l3] (.long (x + y) :: t) h Q := en_ladd mm29 dX2_digest_89
theorem i29_90 {d l0 l1 l2 l3 t x h Q} : Ev d 29 90 [l0, l1, l2, l3] (.long x :: t) h Q = Ev d 29 91 [nl l0, some (.long x), none, l3] t h Q := en_lstore_n mm29 dX2_digest_90 (of_decide_eq_true rfl) rfl
theorem i29_91 {d l0 l1 l2 l3 t h Q} : Ev d 29 91 [l0, l1, l2, l3] t h Q = Ev d 29 92 [l0, l1, l2, l3] (.int 0 :: t) h Q := en_iconst mm29 dX2_digest_91 (by decide)
theorem i29_92 {d l0 l1 l2 l3 t x h Q} : Ev d 29 92 [l0, l1, l2, l3] (.int x :: t) h Q = Ev d 29 93 [l0, l1, nl l2, some (.int x)] t h Q := en_istore_n mm29 dX2_digest_92 (of_decide_eq_true rfl) rfl
theorem i29_93 {d l0 l1 l2 t x h Q} : Ev d 29 93 [l0, l1, l2, some (.int x)] t h Q = Ev d 29 94 [l0, l1, l2, some (.int x)] (.int x :: t) h Q := en_iload_n mm29 dX2_digest_93 rfl
theorem i29_94 {d a l1 l2 l3 t h Q} : Ev d 29 94 [some (.ref a), l1, l2, l3] t h Q = Ev d 29 95 [some (.ref a), l1, l2, l3] (.ref a :: t) h Q := en_aload_n mm29 dX2_digest_94 rfl
theorem i29_95 {d a l0 l1 l2 l3 t h Q} : Ev d 29 95 [l0, l1, l2, l3] (.ref a :: t) h Q = (hk h a = 3 ∧ Ev d 29 98 [l0, l1, l2, l3] (hF h a 2 :: t) h Q) := en_getfield (cj := 2) mm29 dX2_digest_95 (by decide +kernel)
theorem i29_98 {d l0 l1 l2 l3 t x y h Q} : Ev d 29 98 [l0, l1, l2, l3] (.int y :: .int x :: t) h Q = if y ≤ x then Ev d 29 149 [l0, l1, l2, l3] t h Q else Ev d 29 101 [l0, l1, l2, l3] t h Q := en_ic_ge mm29 dX2_digest_98 rfl
theorem i29_101 {d l0 l1 l2 l3 t h Q} : Ev d 29 101 [l0, l1, l2, l3] t h Q = Ev d 29 104 [l0, l1, l2, l3] (.long 31 :: t) h Q := en_ldc2 mm29 dX2_digest_101 (by decide +kernel : look _ cstLT = some (1292, 31)) (by decide)
theorem i29_104 {d l0 l2 l3 t x h Q} : Ev d 29 104 [l0, some (.long x), l2, l3] t h Q = Ev d 29 105 [l0, some (.long x), l2, l3] (.long x :: t) h Q := en_lload_n mm29 dX2_digest_104 rfl
theorem i29_105 {d l0 l1 l2 l3 t x y h Q} : Ev d 29 105 [l0, l1, l2, l3] (.long y :: .long x :: t) h Q = Ev d 29 106 [l0, l1, l2, l3] (.long (x * y) :: t) h Q := en_lmul mm29 dX2_digest_105
theorem i29_106 {d a l1 l2 l3 t h Q} : Ev d 29 106 [some (.ref a), l1, l2, l3] t h Q = Ev d 29 107 [some (.ref a), l1, l2, l3] (.ref a :: t) h Q := en_aload_n mm29 dX2_digest_106 rfl
theorem i29_107 {d a l0 l1 l2 l3 t h Q} : Ev d 29 107 [l0, l1, l2, l3] (.ref a :: t) h Q = (hk h a = 3 ∧ Ev d 29 110 [l0, l1, l2, l3] (hF h a 8 :: t) h Q) := en_getfield (cj := 2) mm29 dX2_digest_107 (by decide +kernel)
theorem i29_110 {d l0 l1 l2 t x h Q} : Ev d 29 110 [l0, l1, l2, some (.int x)] t h Q = Ev d 29 111 [l0, l1, l2, some (.int x)] (.int x :: t) h Q := en_iload_n mm29 dX2_digest_110 rfl
theorem i29_111 {d a j l0 l1 l2 l3 t h Q} : Ev d 29 111 [l0, l1, l2, l3] (.int j :: .ref a :: t) h Q = (hk h a = 10 ∧ inb j (hl h a) ∧ Ev d 29 112 [l0, l1, l2, l3] (.int (hA h a j.toNatClampNeg) :: t) h Q) := en_iaload mm29 dX2_digest_111
theorem i29_112 {d l0 l1 l2 l3 t x h Q} : Ev d 29 112 [l0, l1, l2, l3] (.int x :: t) h Q = Ev d 29 113 [l0, l1, l2, l3] (.long x.toInt64 :: t) h Q := en_i2l mm29 dX2_digest_112
theorem i29_113 {d l0 l1 l2 l3 t x y h Q} : Ev d 29 113 [l0, l1, l2, l3] (.long y :: .long x :: t) h Q = Ev d 29 114 [l0, l1, l2, l3] (.long (x + y) :: t) h Q := en_ladd mm29 dX2_digest_113
theorem i29_114 {d l0 l1 l2 l3 t x h Q} : Ev d 29 114 [l0, l1, l2, l3] (.long x :: t) h Q = Ev d 29 115 [nl l0, some (.long x), none, l3] t h Q := en_lstore_n mm29 dX2_digest_114 (of_decide_eq_true rfl) rfl
theorem i29_115 {d l0 l1 l2 l3 t h Q} : Ev d 29 115 [l0, l1, l2, l3] t h Q = Ev d 29 118 [l0, l1, l2, l3] (.long 31 :: t) h Q := en_ldc2 mm29 dX2_digest_115 (by decide +kernel : look _ cstLT = some (1292, 31)) (by decide)
theorem i29_118 {d l0 l2 l3 t x h Q} : Ev d 29 118 [l0, some (.long x), l2, l3] t h Q = Ev d 29 119 [l0, some (.long x), l2, l3] (.long x :: t) h Q := en_lload_n mm29 dX2_digest_118 rfl
theorem i29_119 {d l0 l1 l2 l3 t x y h Q} : Ev d 29 119 [l0, l1, l2, l3] (.long y :: .long x :: t) h Q = Ev d 29 120 [l0, l1, l2, l3] (.long (x * y) :: t) h Q := en_lmul mm29 dX2_digest_119
theorem i29_120 {d a l1 l2 l3 t h Q} : Ev d 29 120 [some (.ref a), l1, l2, l3] t h Q = Ev d 29 121 [some (.ref a), l1, l2, l3] (.ref a :: t) h Q := en_aload_n mm29 dX2_digest_120 rfl
theorem i29_121 {d a l0 l1 l2 l3 t h Q} : Ev d 29 121 [l0, l1, l2, l3] (.ref a :: t) h Q = (hk h a = 3 ∧ Ev d 29 124 [l0, l1, l2, l3] (hF h a 9 :: t) h Q) := en_getfield (cj := 2) mm29 dX2_digest_121 (by decide +kernel)
theorem i29_124 {d l0 l1 l2 t x h Q} : Ev d 29 124 [l0, l1, l2, some (.int x)] t h Q = Ev d 29 125 [l0, l1, l2, some (.int x)] (.int x :: t) h Q := en_iload_n mm29 dX2_digest_124 rfl
theorem i29_125 {d a j l0 l1 l2 l3 t h Q} : Ev d 29 125 [l0, l1, l2, l3] (.int j :: .ref a :: t) h Q = (hk h a = 10 ∧ inb j (hl h a) ∧ Ev d 29 126 [l0, l1, l2, l3] (.int (hA h a j.toNatClampNeg) :: t) h Q) := en_iaload mm29 dX2_digest_125
theorem i29_126 {d l0 l1 l2 l3 t x h Q} : Ev d 29 126 [l0, l1, l2, l3] (.int x :: t) h Q = Ev d 29 127 [l0, l1, l2, l3] (.long x.toInt64 :: t) h Q := en_i2l mm29 dX2_digest_126
theorem i29_127 {d l0 l1 l2 l3 t x y h Q} : Ev d 29 127 [l0, l1, l2, l3] (.long y :: .long x :: t) h Q = Ev d 29 128 [l0, l1, l2, l3] (.long (x + y) :: t) h Q := en_ladd mm29 dX2_digest_127
theorem i29_128 {d l0 l1 l2 l3 t x h Q} : Ev d 29 128 [l0, l1, l2, l3] (.long x :: t) h Q = Ev d 29 129 [nl l0, some (.long x), none, l3] t h Q := en_lstore_n mm29 dX2_digest_128 (of_decide_eq_true rfl) rfl
theorem i29_129 {d l0 l1 l2 l3 t h Q} : Ev d 29 129 [l0, l1, l2, l3] t h Q = Ev d 29 132 [l0, l1, l2, l3] (.long 31 :: t) h Q := en_ldc2 mm29 dX2_digest_129 (by decide +kernel : look _ cstLT = some (1292, 31)) (by decide)
theorem i29_132 {d l0 l2 l3 t x h Q} : Ev d 29 132 [l0, some (.long x), l2, l3] t h Q = Ev d 29 133 [l0, some (.long x), l2, l3] (.long x :: t) h Q := en_lload_n mm29 dX2_digest_132 rfl
theorem i29_133 {d l0 l1 l2 l3 t x y h Q} : Ev d 29 133 [l0, l1, l2, l3] (.long y :: .long x :: t) h Q = Ev d 29 134 [l0, l1, l2, l3] (.long (x * y) :: t) h Q := en_lmul mm29 dX2_digest_133
theorem i29_134 {d a l1 l2 l3 t h Q} : Ev d 29 134 [some (.ref a), l1, l2, l3] t h Q = Ev d 29 135 [some (.ref a), l1, l2, l3] (.ref a :: t) h Q := en_aload_n mm29 dX2_digest_134 rfl
theorem i29_135 {d a l0 l1 l2 l3 t h Q} : Ev d 29 135 [l0, l1, l2, l3] (.ref a :: t) h Q = (hk h a = 3 ∧ Ev d 29 138 [l0, l1, l2, l3] (hF h a 10 :: t) h Q) := en_getfield (cj := 2) mm29 dX2_digest_135 (by decide +kernel)
theorem i29_138 {d l0 l1 l2 t x h Q} : Ev d 29 138 [l0, l1, l2, some (.int x)] t h Q = Ev d 29 139 [l0, l1, l2, some (.int x)] (.int x :: t) h Q := en_iload_n mm29 dX2_digest_138 rfl
theorem i29_139 {d a j l0 l1 l2 l3 t h Q} : Ev d 29 139 [l0, l1, l2, l3] (.int j :: .ref a :: t) h Q = (hk h a = 10 ∧ inb j (hl h a) ∧ Ev d 29 140 [l0, l1, l2, l3] (.int (hA h a j.toNatClampNeg) :: t) h Q) := en_iaload mm29 dX2_digest_139
theorem i29_140 {d l0 l1 l2 l3 t x h Q} : Ev d 29 140 [l0, l1, l2, l3] (.int x :: t) h Q = Ev d 29 141 [l0, l1, l2, l3] (.long x.toInt64 :: t) h Q := en_i2l mm29 dX2_digest_140
theorem i29_141 {d l0 l1 l2 l3 t x y h Q} : Ev d 29 141 [l0, l1, l2, l3] (.long y :: .long x :: t) h Q = Ev d 29 142 [l0, l1, l2, l3] (.long (x + y) :: t) h Q := en_ladd mm29 dX2_digest_141
theorem i29_142 {d l0 l1 l2 l3 t x h Q} : Ev d 29 142 [l0, l1, l2, l3] (.long x :: t) h Q = Ev d 29 143 [nl l0, some (.long x), none, l3] t h Q := en_lstore_n mm29 dX2_digest_142 (of_decide_eq_true rfl) rfl
theorem i29_143 {d l0 l1 l2 t x h Q} : Ev d 29 143 [l0, l1, l2, some (.int x)] t h Q = Ev d 29 146 [l0, l1, nl l2, some (.int (x + 1))] t h Q := en_iinc mm29 dX2_digest_143 rfl (by decide) rfl
theorem i29_146 {d l0 l1 l2 l3 t h Q} : Ev d 29 146 [l0, l1, l2, l3] t h Q = Ev d 29 93 [l0, l1, l2, l3] t h Q := en_goto mm29 dX2_digest_146 rfl
theorem i29_149 {d l0 l1 l2 l3 t h Q} : Ev d 29 149 [l0, l1, l2, l3] t h Q = Ev d 29 150 [l0, l1, l2, l3] (.int 2 :: t) h Q := en_iconst mm29 dX2_digest_149 (by decide)
theorem i29_150 {d l0 l1 l2 l3 t x h Q} : Ev d 29 150 [l0, l1, l2, l3] (.int x :: t) h Q = Ev d 29 151 [l0, l1, nl l2, some (.int x)] t h Q := en_istore_n mm29 dX2_digest_150 (of_decide_eq_true rfl) rfl
theorem i29_151 {d l0 l1 l2 t x h Q} : Ev d 29 151 [l0, l1, l2, some (.int x)] t h Q = Ev d 29 152 [l0, l1, l2, some (.int x)] (.int x :: t) h Q := en_iload_n mm29 dX2_digest_151 rfl
theorem i29_152 {d l0 l1 l2 l3 t h Q} : Ev d 29 152 [l0, l1, l2, l3] t h Q = Ev d 29 154 [l0, l1, l2, l3] (.int 19 :: t) h Q := en_bipush mm29 dX2_digest_152 (by decide)
theorem i29_154 {d l0 l1 l2 l3 t x y h Q} : Ev d 29 154 [l0, l1, l2, l3] (.int y :: .int x :: t) h Q = if y < x then Ev d 29 219 [l0, l1, l2, l3] t h Q else Ev d 29 157 [l0, l1, l2, l3] t h Q := en_ic_gt mm29 dX2_digest_154 rfl
theorem i29_157 {d l0 l1 l2 l3 t h Q} : Ev d 29 157 [l0, l1, l2, l3] t h Q = Ev d 29 160 [l0, l1, l2, l3] (.long 31 :: t) h Q := en_ldc2 mm29 dX2_digest_157 (by decide +kernel : look _ cstLT = some (1292, 31)) (by decide)
theorem i29_160 {d l0 l2 l3 t x h Q} : Ev d 29 160 [l0, some (.long x), l2, l3] t h Q = Ev d 29 161 [l0, some (.long x), l2, l3] (.long x :: t) h Q := en_lload_n mm29 dX2_digest_160 rfl
theorem i29_161 {d l0 l1 l2 l3 t x y h Q} : Ev d 29 161 [l0, l1, l2, l3] (.long y :: .long x :: t) h Q = Ev d 29 162 [l0, l1, l2, l3] (.long (x * y) :: t) h Q := en_lmul mm29 dX2_digest_161
theorem i29_162 {d a l1 l2 l3 t h Q} : Ev d 29 162 [some (.ref a), l1, l2, l3] t h Q = Ev d 29 163 [some (.ref a), l1, l2, l3] (.ref a :: t) h Q := en_aload_n mm29 dX2_digest_162 rfl
theorem i29_163 {d a l0 l1 l2 l3 t h Q} : Ev d 29 163 [l0, l1, l2, l3] (.ref a :: t) h Q = (hk h a = 3 ∧ Ev d 29 166 [l0, l1, l2, l3] (hF h a 11 :: t) h Q) := en_getfield (cj := 2) mm29 dX2_digest_163 (by decide +kernel)
theorem i29_166 {d l0 l1 l2 t x h Q} : Ev d 29 166 [l0, l1, l2, some (.int x)] t h Q = Ev d 29 167 [l0, l1, l2, some (.int x)] (.int x :: t) h Q := en_iload_n mm29 dX2_digest_166 rfl
theorem i29_167 {d a j l0 l1 l2 l3 t h Q} : Ev d 29 167 [l0, l1, l2, l3] (.int j :: .ref a :: t) h Q = (hk h a = 10 ∧ inb j (hl h a) ∧ Ev d 29 168 [l0, l1, l2, l3] (.int (hA h a j.toNatClampNeg) :: t) h Q) := en_iaload mm29 dX2_digest_167
theorem i29_168 {d l0 l1 l2 l3 t x h Q} : Ev d 29 168 [l0, l1, l2, l3] (.int x :: t) h Q = Ev d 29 169 [l0, l1, l2, l3] (.long x.toInt64 :: t) h Q := en_i2l mm29 dX2_digest_168
theorem i29_169 {d l0 l1 l2 l3 t x y h Q} : Ev d 29 169 [l0, l1, l2, l3] (.long y :: .long x :: t) h Q = Ev d 29 170 [l0, l1, l2, l3] (.long (x + y) :: t) h Q := en_ladd mm29 dX2_digest_169
theorem i29_170 {d l0 l1 l2 l3 t x h Q} : Ev d 29 170 [l0, l1, l2, l3] (.long x :: t) h Q = Ev d 29 171 [nl l0, some (.long x), none, l3] t h Q := en_lstore_n mm29 dX2_digest_170 (of_decide_eq_true rfl) rfl
theorem i29_171 {d l0 l1 l2 l3 t h Q} : Ev d 29 171 [l0, l1, l2, l3] t h Q = Ev d 29 174 [l0, l1, l2, l3] (.long 31 :: t) h Q := en_ldc2 mm29 dX2_digest_171 (by decide +kernel : look _ cstLT = some (1292, 31)) (by decide)
theorem i29_174 {d l0 l2 l3 t x h Q} : Ev d 29 174 [l0, some (.long x), l2, l3] t h Q = Ev d 29 175 [l0, some (.long x), l2, l3] (.long x :: t) h Q := en_lload_n mm29 dX2_digest_174 rfl
theorem i29_175 {d l0 l1 l2 l3 t x y h Q} : Ev d 29 175 [l0, l1, l2, l3] (.long y :: .long x :: t) h Q = Ev d 29 176 [l0, l1, l2, l3] (.long (x * y) :: t) h Q := en_lmul mm29 dX2_digest_175
theorem i29_176 {d a l1 l2 l3 t h Q} : Ev d 29 176 [some (.ref a), l1, l2, l3] t h Q = Ev d 29 177 [some (.ref a), l1, l2, l3] (.ref a :: t) h Q := en_aload_n mm29 dX2_digest_176 rfl
theorem i29_177 {d a l0 l1 l2 l3 t h Q} : Ev d 29 177 [l0, l1, l2, l3] (.ref a :: t) h Q = (hk h a = 3 ∧ Ev d 29 180 [l0, l1, l2, l3] (hF h a 12 :: t) h Q) := en_getfield (cj := 2) mm29 dX2_digest_177 (by decide +kernel)
theorem i29_180 {d l0 l1 l2 t x h Q} : Ev d 29 180 [l0, l1, l2, some (.int x)] t h Q = Ev d 29 181 [l0, l1, l2, some (.int x)] (.int x :: t) h Q := en_iload_n mm29 dX2_digest_180 rfl
theorem i29_181 {d a j l0 l1 l2 l3 t h Q} : Ev d 29 181 [l0, l1, l2, l3] (.int j :: .ref a :: t) h Q = (hk h a = 10 ∧ inb j (hl h a) ∧ Ev d 29 182 [l0, l1, l2, l3] (.int (hA h a j.toNatClampNeg) :: t) h Q) := en_iaload mm29 dX2_digest_181
theorem i29_182 {d l0 l1 l2 l3 t x h Q} : Ev d 29 182 [l0, l1, l2, l3] (.int x :: t) h Q = Ev d 29 183 [l0, l1, l2, l3] (.long x.toInt64 :: t) h Q := en_i2l mm29 dX2_digest_182
theorem i29_183 {d l0 l1 l2 l3 t x y h Q} : Ev d 29 183 [l0, l1, l2, l3] (.long y :: .long x :: t) h Q = Ev d 29 184 [l0, l1, l2, l3] (.long (x + y) :: t) h Q := en_ladd mm29 dX2_digest_183
theorem i29_184 {d l0 l1 l2 l3 t x h Q} : Ev d 29 184 [l0, l1, l2, l3] (.long x :: t) h Q = Ev d 29 185 [nl l0, some (.long x), none, l3] t h Q := en_lstore_n mm29 dX2_digest_184 (of_decide_eq_true rfl) rfl
theorem i29_185 {d l0 l1 l2 l3 t h Q} : Ev d 29 185 [l0, l1, l2, l3] t h Q = Ev d 29 188 [l0, l1, l2, l3] (.long 31 :: t) h Q := en_ldc2 mm29 dX2_digest_185 (by decide +kernel : look _ cstLT = some (1292, 31)) (by decide)
theorem i29_188 {d l0 l2 l3 t x h Q} : Ev d 29 188 [l0, some (.long x), l2, l3] t h Q = Ev d 29 189 [l0, some (.long x), l2, l3] (.long x :: t) h Q := en_lload_n mm29 dX2_digest_188 rfl
theorem i29_189 {d l0 l1 l2 l3 t x y h Q} : Ev d 29 189 [l0, l1, l2, l3] (.long y :: .long x :: t) h Q = Ev d 29 190 [l0, l1, l2, l3] (.long (x * y) :: t) h Q := en_lmul mm29 dX2_digest_189
theorem i29_190 {d a l1 l2 l3 t h Q} : Ev d 29 190 [some (.ref a), l1, l2, l3] t h Q = Ev d 29 191 [some (.ref a), l1, l2, l3] (.ref a :: t) h Q := en_aload_n mm29 dX2_digest_190 rfl
theorem i29_191 {d a l0 l1 l2 l3 t h Q} : Ev d 29 191 [l0, l1, l2, l3] (.ref a :: t) h Q = (hk h a = 3 ∧ Ev d 29 194 [l0, l1, l2, l3] (hF h a 13 :: t) h Q) := en_getfield (cj := 2) mm29 dX2_digest_191 (by decide +kernel)
theorem i29_194 {d l0 l1 l2 t x h Q} : Ev d 29 194 [l0, l1, l2, some (.int x)] t h Q = Ev d 29 195 [l0, l1, l2, some (.int x)] (.int x :: t) h Q := en_iload_n mm29 dX2_digest_194 rfl
theorem i29_195 {d a j l0 l1 l2 l3 t h Q} : Ev d 29 195 [l0, l1, l2, l3] (.int j :: .ref a :: t) h Q = (hk h a = 10 ∧ inb j (hl h a) ∧ Ev d 29 196 [l0, l1, l2, l3] (.int (hA h a j.toNatClampNeg) :: t) h Q) := en_iaload mm29 dX2_digest_195
theorem i29_196 {d l0 l1 l2 l3 t x h Q} : Ev d 29 196 [l0, l1, l2, l3] (.int x :: t) h Q = Ev d 29 197 [l0, l1, l2, l3] (.long x.toInt64 :: t) h Q := en_i2l mm29 dX2_digest_196
theorem i29_197 {d l0 l1 l2 l3 t x y h Q} : Ev d 29 197 [l0, l1, l2, l3] (.long y :: .long x :: t) h Q = Ev d 29 198 [l0, l1, l2, l3] (.long (x + y) :: t) h Q := en_ladd mm29 dX2_digest_197
theorem i29_198 {d l0 l1 l2 l3 t x h Q} : Ev d 29 198 [l0, l1, l2, l3] (.long x :: t) h Q = Ev d 29 199 [nl l0, some (.long x), none, l3] t h Q := en_lstore_n mm29 dX2_digest_198 (of_decide_eq_true rfl) rfl
theorem i29_199 {d l0 l1 l2 l3 t h Q} : Ev d 29 199 [l0, l1, l2, l3] t h Q = Ev d 29 202 [l0, l1, l2, l3] (.long 31 :: t) h Q := en_ldc2 mm29 dX2_digest_199 (by decide +kernel : look _ cstLT = some (1292, 31)) (by decide)
theorem i29_202 {d l0 l2 l3 t x h Q} : Ev d 29 202 [l0, some (.long x), l2, l3] t h Q = Ev d 29 203 [l0, some (.long x), l2, l3] (.long x :: t) h Q := en_lload_n mm29 dX2_digest_202 rfl
theorem i29_203 {d l0 l1 l2 l3 t x y h Q} : Ev d 29 203 [l0, l1, l2, l3] (.long y :: .long x :: t) h Q = Ev d 29 204 [l0, l1, l2, l3] (.long (x * y) :: t) h Q := en_lmul mm29 dX2_digest_203
theorem i29_204 {d a l1 l2 l3 t h Q} : Ev d 29 204 [some (.ref a), l1, l2, l3] t h Q = Ev d 29 205 [some (.ref a), l1, l2, l3] (.ref a :: t) h Q := en_aload_n mm29 dX2_digest_204 rfl
theorem i29_205 {d a l0 l1 l2 l3 t h Q} : Ev d 29 205 [l0, l1, l2, l3] (.ref a :: t) h Q = (hk h a = 3 ∧ Ev d 29 208 [l0, l1, l2, l3] (hF h a 14 :: t) h Q) := en_getfield (cj := 2) mm29 dX2_digest_205 (by decide +kernel)
theorem i29_208 {d l0 l1 l2 t x h Q} : Ev d 29 208 [l0, l1, l2, some (.int x)] t h Q = Ev d 29 209 [l0, l1, l2, some (.int x)] (.int x :: t) h Q := en_iload_n mm29 dX2_digest_208 rfl
theorem i29_209 {d a j l0 l1 l2 l3 t h Q} : Ev d 29 209 [l0, l1, l2, l3] (.int j :: .ref a :: t) h Q = (hk h a = 10 ∧ inb j (hl h a) ∧ Ev d 29 210 [l0, l1, l2, l3] (.int (hA h a j.toNatClampNeg) :: t) h Q) := en_iaload mm29 dX2_digest_209
theorem i29_210 {d l0 l1 l2 l3 t x h Q} : Ev d 29 210 [l0, l1, l2, l3] (.int x :: t) h Q = Ev d 29 211 [l0, l1, l2, l3] (.long x.toInt64 :: t) h Q := en_i2l mm29 dX2_digest_210
theorem i29_211 {d l0 l1 l2 l3 t x y h Q} : Ev d 29 211 [l0, l1, l2, l3] (.long y :: .long x :: t) h Q = Ev d 29 212 [l0, l1, l2, l3] (.long (x + y) :: t) h Q := en_ladd mm29 dX2_digest_211
theorem i29_212 {d l0 l1 l2 l3 t x h Q} : Ev d 29 212 [l0, l1, l2, l3] (.long x :: t) h Q = Ev d 29 213 [nl l0, some (.long x), none, l3] t h Q := en_lstore_n mm29 dX2_digest_212 (of_decide_eq_true rfl) rfl
theorem i29_213 {d l0 l1 l2 t x h Q} : Ev d 29 213 [l0, l1, l2, some (.int x)] t h Q = Ev d 29 216 [l0, l1, nl l2, some (.int (x + 1))] t h Q := en_iinc mm29 dX2_digest_213 rfl (by decide) rfl
theorem i29_216 {d l0 l1 l2 l3 t h Q} : Ev d 29 216 [l0, l1, l2, l3] t h Q = Ev d 29 151 [l0, l1, l2, l3] t h Q := en_goto mm29 dX2_digest_216 rfl
theorem i29_219 {d l0 l2 l3 t x h Q} : Ev d 29 219 [l0, some (.long x), l2, l3] t h Q = Ev d 29 220 [l0, some (.long x), l2, l3] (.long x :: t) h Q := en_lload_n mm29 dX2_digest_219 rfl
theorem i29_220 {d l0 l1 l2 l3 x h Q} : Ev d 29 220 [l0, l1, l2, l3] [.long x] h Q = Q (.inl (some (.long x))) h := en_lreturn mm29 dX2_digest_220 rfl
abbrev em30 : MI := (yX3_init, cX3_init, 2, none, 3, [])
theorem mm30 : mtab[30]? = some em30 := rfl
theorem in30 {d : Nat} {h : AH} {K : AO → AH → Prop} {v0 : Nat} : EvM d 30 [(.ref v0)] h K = Ev d 30 0 [some (.ref v0), none] [] h K := evm_in mm30 (of_decide_eq_true rfl) rfl
theorem i30_0 {d a l1 t h Q} : Ev d 30 0 [some (.ref a), l1] t h Q = Ev d 30 1 [some (.ref a), l1] (.ref a :: t) h Q := en_aload_n mm30 dX3_init_0 rfl
theorem i30_1 {d a l0 l1 h Q} : Ev (d + 1) 30 1 [l0, l1] [.ref a] h Q = Ev (d + 1) 30 4 [l0, l1] [] h Q := en_objinit mm30 dX3_init_1 (by decide +kernel) (of_decide_eq_true rfl)
theorem i30_4 {d a l1 t h Q} : Ev d 30 4 [some (.ref a), l1] t h Q = Ev d 30 5 [some (.ref a), l1] (.ref a :: t) h Q := en_aload_n mm30 dX3_init_4 rfl
theorem i30_5 {d l0 l1 t h Q} : Ev d 30 5 [l0, l1] t h Q = Ev d 30 7 [l0, l1] (.int 6 :: t) h Q := en_bipush mm30 dX3_init_5 (by decide)
theorem i30_7 {d l0 l1 t x h Q} : Ev d 30 7 [l0, l1] (.int x :: t) h Q = (¬ (x < 0 ∨ 60000000 < x.toNatClampNeg) ∧ Ev d 30 9 [l0, l1] (.ref (hN h) :: t) (alA h 10 x.toNatClampNeg) Q) := en_newI mm30 dX3_init_7
theorem i30_9 {d a b l0 l1 t h Q} : Ev d 30 9 [l0, l1] (.ref b :: .ref a :: t) h Q = (hk h a = 4 ∧ Ev d 30 12 [l0, l1] t (wF h a 3 (.ref b)) Q) := en_putfield (cj := 3) mm30 dX3_init_9 (by decide +kernel) rfl
theorem i30_12 {d a l1 t h Q} : Ev d 30 12 [some (.ref a), l1] t h Q = Ev d 30 13 [some (.ref a), l1] (.ref a :: t) h Q := en_aload_n mm30 dX3_init_12 rfl
theorem i30_13 {d l0 l1 t h Q} : Ev d 30 13 [l0, l1] t h Q = Ev d 30 15 [l0, l1] (.int 6 :: t) h Q := en_bipush mm30 dX3_init_13 (by decide)
theorem i30_15 {d l0 l1 t x h Q} : Ev d 30 15 [l0, l1] (.int x :: t) h Q = (¬ (x < 0 ∨ 60000000 < x.toNatClampNeg) ∧ Ev d 30 17 [l0, l1] (.ref (hN h) :: t) (alA h 10 x.toNatClampNeg) Q) := en_newI mm30 dX3_init_15
theorem i30_17 {d a b l0 l1 t h Q} : Ev d 30 17 [l0, l1] (.ref b :: .ref a :: t) h Q = (hk h a = 4 ∧ Ev d 30 20 [l0, l1] t (wF h a 4 (.ref b)) Q) := en_putfield (cj := 3) mm30 dX3_init_17 (by decide +kernel) rfl
theorem i30_20 {d a l1 t h Q} : Ev d 30 20 [some (.ref a), l1] t h Q = Ev d 30 21 [some (.ref a), l1] (.ref a :: t) h Q := en_aload_n mm30 dX3_init_20 rfl
theorem i30_21 {d l0 l1 t h Q} : Ev d 30 21 [l0, l1] t h Q = Ev d 30 23 [l0, l1] (.int 6 :: t) h Q := en_bipush mm30 dX3_init_21 (by decide)
theorem i30_23 {d l0 l1 t x h Q} : Ev d 30 23 [l0, l1] (.int x :: t) h Q = (¬ (x < 0 ∨ 60000000 < x.toNatClampNeg) ∧ Ev d 30 25 [l0, l1] (.ref (hN h) :: t) (alA h 10 x.toNatClampNeg) Q) := en_newI mm30 dX3_init_23
theorem i30_25 {d a b l0 l1 t h Q} : Ev d 30 25 [l0, l1] (.ref b :: .ref a :: t) h Q = (hk h a = 4 ∧ Ev d 30 28 [l0, l1] t (wF h a 5 (.ref b)) Q) := en_putfield (cj := 3) mm30 dX3_init_25 (by decide +kernel) rfl
theorem i30_28 {d a l1 t h Q} : Ev d 30 28 [some (.ref a), l1] t h Q = Ev d 30 29 [some (.ref a), l1] (.ref a :: t) h Q := en_aload_n mm30 dX3_init_28 rfl
theorem i30_29 {d l0 l1 t h Q} : Ev d 30 29 [l0, l1] t h Q = Ev d 30 31 [l0, l1] (.int 6 :: t) h Q := en_bipush mm30 dX3_init_29 (by decide)
theorem i30_31 {d l0 l1 t x h Q} : Ev d 30 31 [l0, l1] (.int x :: t) h Q = (¬ (x < 0 ∨ 60000000 < x.toNatClampNeg) ∧ Ev d 30 33 [l0, l1] (.ref (hN h) :: t) (alA h 10 x.toNatClampNeg) Q) := en_newI mm30 dX3_init_31
theorem i30_33 {d a b l0 l1 t h Q} : Ev d 30 33 [l0, l1] (.ref b :: .ref a :: t) h Q = (hk h a = 4 ∧ Ev d 30 36 [l0, l1] t (wF h a 6 (.ref b)) Q) := en_putfield (cj := 3) mm30 dX3_init_33 (by decide +kernel) rfl
theorem i30_36 {d a l1 t h Q} : Ev d 30 36 [some (.ref a), l1] t h Q = Ev d 30 37 [some (.ref a), l1] (.ref a :: t) h Q := en_aload_n mm30 dX3_init_36 rfl
theorem i30_37 {d l0 l1 t h Q} : Ev d 30 37 [l0, l1] t h Q = Ev d 30 39 [l0, l1] (.int 6 :: t) h Q := en_bipush mm30 dX3_init_37 (by decide)
theorem i30_39 {d l0 l1 t x h Q} : Ev d 30 39 [l0, l1] (.int x :: t) h Q = (¬ (x < 0 ∨ 60000000 < x.toNatClampNeg) ∧ Ev d 30 41 [l0, l1] (.ref (hN h) :: t) (alA h 10 x.toNatClampNeg) Q) := en_newI mm30 dX3_init_39
theorem i30_41 {d a b l0 l1 t h Q} : Ev d 30 41 [l0, l1] (.ref b :: .ref a :: t) h Q = (hk h a = 4 ∧ Ev d 30 44 [l0, l1] t (wF h a 7 (.ref b)) Q) := en_putfield (cj := 3) mm30 dX3_init_41 (by decide +kernel) rfl
theorem i30_44 {d a l1 t h Q} : Ev d 30 44 [some (.ref a), l1] t h Q = Ev d 30 45 [some (.ref a), l1] (.ref a :: t) h Q := en_aload_n mm30 dX3_init_44 rfl
theorem i30_45 {d l0 l1 t h Q} : Ev d 30 45 [l0, l1] t h Q = Ev d 30 47 [l0, l1] (.int 20 :: t) h Q := en_bipush mm30 dX3_init_45 (by decide)
theorem i30_47 {d l0 l1 t x h Q} : Ev d 30 47 [l0, l1] (.int x :: t) h Q = (¬ (x < 0 ∨ 60000000 < x.toNatClampNeg) ∧ Ev d 30 49 [l0, l1] (.ref (hN h) :: t) (alA h 10 x.toNatClampNeg) Q) := en_newI mm30 dX3_init_47
theorem i30_49 {d a b l0 l1 t h Q} : Ev d 30 49 [l0, l1] (.ref b :: .ref a :: t) h Q = (hk h a = 4 ∧ Ev d 30 52 [l0, l1] t (wF h a 8 (.ref b)) Q) := en_putfield (cj := 3) mm30 dX3_init_49 (by decide +kernel) rfl
theorem i30_52 {d a l1 t h Q} : Ev d 30 52 [some (.ref a), l1] t h Q = Ev d 30 53 [some (.ref a), l1] (.ref a :: t) h Q := en_aload_n mm30 dX3_init_52 rfl
theorem i30_53 {d l0 l1 t h Q} : Ev d 30 53 [l0, l1] t h Q = Ev d 30 55 [l0, l1] (.int 20 :: t) h Q := en_bipush mm30 dX3_init_53 (by decide)
theorem i30_55 {d l0 l1 t x h Q} : Ev d 30 55 [l0, l1] (.int x :: t) h Q = (¬ (x < 0 ∨ 60000000 < x.toNatClampNeg) ∧ Ev d 30 57 [l0, l1] (.ref (hN h) :: t) (alA h 10 x.toNatClampNeg) Q) := en_newI mm30 dX3_init_55
theorem i30_57 {d a b l0 l1 t h Q} : Ev d 30 57 [l0, l1] (.ref b :: .ref a :: t) h Q = (hk h a = 4 ∧ Ev d 30 60 [l0, l1] t (wF h a 9 (.ref b)) Q) := en_putfield (cj := 3) mm30 dX3_init_57 (by decide +kernel) rfl
theorem i30_60 {d l0 l1 t h Q} : Ev d 30 60 [l0, l1] t h Q = Ev d 30 61 [l0, l1] (.int 0 :: t) h Q := en_iconst mm30 dX3_init_60 (by decide)
theorem i30_61 {d l0 l1 t x h Q} : Ev d 30 61 [l0, l1] (.int x :: t) h Q = Ev d 30 62 [nl l0, some (.int x)] t h Q := en_istore_n mm30 dX3_init_61 (of_decide_eq_true rfl) rfl
theorem i30_62 {d l0 t x h Q} : Ev d 30 62 [l0, some (.int x)] t h Q = Ev d 30 63 [l0, some (.int x)] (.int x :: t) h Q := en_iload_n mm30 dX3_init_62 rfl
theorem i30_63 {d l0 l1 t h Q} : Ev d 30 63 [l0, l1] t h Q = Ev d 30 65 [l0, l1] (.int 20 :: t) h Q := en_bipush mm30 dX3_init_63 (by decide)
theorem i30_65 {d l0 l1 t x y h Q} : Ev d 30 65 [l0, l1] (.int y :: .int x :: t) h Q = if y ≤ x then Ev d 30 88 [l0, l1] t h Q else Ev d 30 68 [l0, l1] t h Q := en_ic_ge mm30 dX3_init_65 rfl
theorem i30_68 {d a l1 t h Q} : Ev d 30 68 [some (.ref a), l1] t h Q = Ev d 30 69 [some (.ref a), l1] (.ref a :: t) h Q := en_aload_n mm30 dX3_init_68 rfl
theorem i30_69 {d a l0 l1 t h Q} : Ev d 30 69 [l0, l1] (.ref a :: t) h Q = (hk h a = 4 ∧ Ev d 30 72 [l0, l1] (hF h a 8 :: t) h Q) := en_getfield (cj := 3) mm30 dX3_init_69 (by decide +kernel)
theorem i30_72 {d l0 t x h Q} : Ev d 30 72 [l0, some (.int x)] t h Q = Ev d 30 73 [l0, some (.int x)] (.int x :: t) h Q := en_iload_n mm30 dX3_init_72 rfl
theorem i30_73 {d l0 l1 t h Q} : Ev d 30 73 [l0, l1] t h Q = Ev d 30 74 [l0, l1] (.int (-1) :: t) h Q := en_iconst mm30 dX3_init_73 (by decide)
theorem i30_74 {d a j l0 l1 t x h Q} : Ev d 30 74 [l0, l1] (.int x :: .int j :: .ref a :: t) h Q = (hk h a = 10 ∧ inb j (hl h a) ∧ Ev d 30 75 [l0, l1] t (wA h a (upd (hA h a) j.toNatClampNeg x)) Q) := en_iastore mm30 dX3_init_74
theorem i30_75 {d a l1 t h Q} : Ev d 30 75 [some (.ref a), l1] t h Q = Ev d 30 76 [some (.ref a), l1] (.ref a :: t) h Q := en_aload_n mm30 dX3_init_75 rfl
theorem i30_76 {d a l0 l1 t h Q} : Ev d 30 76 [l0, l1] (.ref a :: t) h Q = (hk h a = 4 ∧ Ev d 30 79 [l0, l1] (hF h a 9 :: t) h Q) := en_getfield (cj := 3) mm30 dX3_init_76 (by decide +kernel)
theorem i30_79 {d l0 t x h Q} : Ev d 30 79 [l0, some (.int x)] t h Q = Ev d 30 80 [l0, some (.int x)] (.int x :: t) h Q := en_iload_n mm30 dX3_init_79 rfl
theorem i30_80 {d l0 l1 t h Q} : Ev d 30 80 [l0, l1] t h Q = Ev d 30 81 [l0, l1] (.int (-1) :: t) h Q := en_iconst mm30 dX3_init_80 (by decide)
theorem i30_81 {d a j l0 l1 t x h Q} : Ev d 30 81 [l0, l1] (.int x :: .int j :: .ref a :: t) h Q = (hk h a = 10 ∧ inb j (hl h a) ∧ Ev d 30 82 [l0, l1] t (wA h a (upd (hA h a) j.toNatClampNeg x)) Q) := en_iastore mm30 dX3_init_81
theorem i30_82 {d l0 t x h Q} : Ev d 30 82 [l0, some (.int x)] t h Q = Ev d 30 85 [nl l0, some (.int (x + 1))] t h Q := en_iinc mm30 dX3_init_82 rfl (by decide) rfl
theorem i30_85 {d l0 l1 t h Q} : Ev d 30 85 [l0, l1] t h Q = Ev d 30 62 [l0, l1] t h Q := en_goto mm30 dX3_init_85 rfl
theorem i30_88 {d l0 l1 t h Q} : Ev d 30 88 [l0, l1] t h Q = Ev d 30 89 [l0, l1] (.int 3 :: t) h Q := en_iconst mm30 dX3_init_88 (by decide)
theorem i30_89 {d l0 l1 t x h Q} : Ev d 30 89 [l0, l1] (.int x :: t) h Q = (¬ (x < 0 ∨ 60000000 < x.toNatClampNeg) ∧ Ev d 30 91 [l0, l1] (.ref (hN h) :: t) (alA h 10 x.toNatClampNeg) Q) := en_newI mm30 dX3_init_89
theorem i30_91 {d a l0 l1 t h Q} : Ev d 30 91 [l0, l1] (.ref a :: t) h Q = Ev d 30 92 [l0, l1] (.ref a :: .ref a :: t) h Q := en_dup mm30 dX3_init_91
theorem i30_92 {d l0 l1 t h Q} : Ev d 30 92 [l0, l1] t h Q = Ev d 30 93 [l0, l1] (.int 0 :: t) h Q := en_iconst mm30 dX3_init_92 (by decide)
theorem i30_93 {d l0 l1 t h Q} : Ev d 30 93 [l0, l1] t h Q = Ev d 30 96 [l0, l1] (.int 400 :: t) h Q := en_sipush mm30 dX3_init_93 (by decide)
theorem i30_96 {d a j l0 l1 t x h Q} : Ev d 30 96 [l0, l1] (.int x :: .int j :: .ref a :: t) h Q = (hk h a = 10 ∧ inb j (hl h a) ∧ Ev d 30 97 [l0, l1] t (wA h a (upd (hA h a) j.toNatClampNeg x)) Q) := en_iastore mm30 dX3_init_96
theorem i30_97 {d a l0 l1 t h Q} : Ev d 30 97 [l0, l1] (.ref a :: t) h Q = Ev d 30 98 [l0, l1] (.ref a :: .ref a :: t) h Q := en_dup mm30 dX3_init_97
theorem i30_98 {d l0 l1 t h Q} : Ev d 30 98 [l0, l1] t h Q = Ev d 30 99 [l0, l1] (.int 1 :: t) h Q := en_iconst mm30 dX3_init_98 (by decide)
theorem i30_99 {d l0 l1 t h Q} : Ev d 30 99 [l0, l1] t h Q = Ev d 30 101 [l0, l1] (.int (-5) :: t) h Q := en_bipush mm30 dX3_init_99 (by decide)
theorem i30_101 {d a j l0 l1 t x h Q} : Ev d 30 101 [l0, l1] (.int x :: .int j :: .ref a :: t) h Q = (hk h a = 10 ∧ inb j (hl h a) ∧ Ev d 30 102 [l0, l1] t (wA h a (upd (hA h a) j.toNatClampNeg x)) Q) := en_iastore mm30 dX3_init_101
theorem i30_102 {d a l0 l1 t h Q} : Ev d 30 102 [l0, l1] (.ref a :: t) h Q = Ev d 30 103 [l0, l1] (.ref a :: .ref a :: t) h Q := en_dup mm30 dX3_init_102
theorem i30_103 {d l0 l1 t h Q} : Ev d 30 103 [l0, l1] t h Q = Ev d 30 104 [l0, l1] (.int 2 :: t) h Q := en_iconst mm30 dX3_init_103 (by decide)
theorem i30_104 {d l0 l1 t h Q} : Ev d 30 104 [l0, l1] t h Q = Ev d 30 106 [l0, l1] (.int (-4) :: t) h Q := en_bipush mm30 dX3_init_104 (by decide)
theorem i30_106 {d a j l0 l1 t x h Q} : Ev d 30 106 [l0, l1] (.int x :: .int j :: .ref a :: t) h Q = (hk h a = 10 ∧ inb j (hl h a) ∧ Ev d 30 107 [l0, l1] t (wA h a (upd (hA h a) j.toNatClampNeg x)) Q) := en_iastore mm30 dX3_init_106
theorem i30_107 {d a l0 l1 t h Q} : Ev d 30 107 [l0, l1] (.ref a :: t) h Q = Ev d 30 108 [nl l0, some (.ref a)] t h Q := en_astore_n mm30 dX3_init_107 (of_decide_eq_true rfl) rfl
theorem i30_108 {d a l1 t h Q} : Ev d 30 108 [some (.ref a), l1] t h Q = Ev d 30 109 [some (.ref a), l1] (.ref a :: t) h Q := en_aload_n mm30 dX3_init_108 rfl
theorem i30_109 {d l0 l1 t h Q} : Ev d 30 109 [l0, l1] t h Q = Ev d 30 112 [l0, l1] (.ref (hN h) :: t) (alO h 1 2 (dfl 0)) Q := en_new mm30 dX3_init_109 (by decide +kernel : look _ clsT = some (88, 0)) rfl
theorem i30_112 {d a l0 l1 t h Q} : Ev d 30 112 [l0, l1] (.ref a :: t) h Q = Ev d 30 113 [l0, l1] (.ref a :: .ref a :: t) h Q := en_dup mm30 dX3_init_112
theorem i30_113 {d a l0 t h Q} : Ev d 30 113 [l0, some (.ref a)] t h Q = Ev d 30 114 [l0, some (.ref a)] (.ref a :: t) h Q := en_aload_n mm30 dX3_init_113 rfl
theorem i30_114 {d a l0 t h Q} : Ev d 30 114 [l0, some (.ref a)] t h Q = Ev d 30 115 [l0, some (.ref a)] (.ref a :: t) h Q := en_aload_n mm30 dX3_init_114 rfl
theorem i30_115 {d a l0 l1 t h Q} : Ev d 30 115 [l0, l1] (.ref a :: t) h Q = ((10 ≤ hk h a ∧ hk h a ≤ 16) ∧ Ev d 30 116 [l0, l1] (.int (nI (hl h a)) :: t) h Q) := en_arraylength mm30 dX3_init_115
theorem i30_116 {d a l0 l1 x0 x1 x3 x4 h Q} : Ev (d + 1) 30 116 [l0, l1] [x0, x1, .ref a, x3, x4] h Q = (hk h a = 1 ∧ EvM d 0 [.ref a, x1, x0] h (konN (d + 1) 30 119 [l0, l1] [x3, x4] Q)) := en_specialN mm30 dX3_init_116 (by decide +kernel : ml _ _ = some (5, 0)) (by decide) (rfl : mtab[0]? = some _) (by decide +kernel : npar _ = 2) rfl (by decide) rfl (of_decide_eq_true rfl) (len_cat (of_decide_eq_true rfl)) rfl rfl rfl
theorem i30_119 {d a b l0 l1 t h Q} : Ev d 30 119 [l0, l1] (.ref b :: .ref a :: t) h Q = (hk h a = 4 ∧ Ev d 30 122 [l0, l1] t (wF h a 10 (.ref b)) Q) := en_putfield (cj := 3) mm30 dX3_init_119 (by decide +kernel) rfl
theorem i30_122 {d l0 l1 h Q} : Ev d 30 122 [l0, l1] [] h Q = Q (.inl none) h := en_return mm30 dX3_init_122 rfl
abbrev em31 : MI := (yX4_init, cX4_init, 1, none, 4, [])
theorem mm31 : mtab[31]? = some em31 := rfl
theorem in31 {d : Nat} {h : AH} {K : AO → AH → Prop} {v0 : Nat} : EvM d 31 [(.ref v0)] h K = Ev d 31 0 [some (.ref v0)] [] h K := evm_in mm31 (of_decide_eq_true rfl) rfl
theorem i31_0 {d a t h Q} : Ev d 31 0 [some (.ref a)] t h Q = Ev d 31 1 [some (.ref a)] (.ref a :: t) h Q := en_aload_n mm31 dX4_init_0 rfl
theorem i31_1 {d a l0 h Q} : Ev (d + 1) 31 1 [l0] [.ref a] h Q = Ev (d + 1) 31 4 [l0] [] h Q := en_objinit mm31 dX4_init_1 (by decide +kernel) (of_decide_eq_true rfl)
theorem i31_4 {d a t h Q} : Ev d 31 4 [some (.ref a)] t h Q = Ev d 31 5 [some (.ref a)] (.ref a :: t) h Q := en_aload_n mm31 dX4_init_4 rfl
theorem i31_5 {d l0 t h Q} : Ev d 31 5 [l0] t h Q = Ev d 31 8 [l0] (.int 700 :: t) h Q := en_sipush mm31 dX4_init_5 (by decide)
theorem i31_8 {d l0 t x h Q} : Ev d 31 8 [l0] (.int x :: t) h Q = (¬ (x < 0 ∨ 60000000 < x.toNatClampNeg) ∧ Ev d 31 10 [l0] (.ref (hN h) :: t) (alA h 11 x.toNatClampNeg) Q) := en_newB mm31 dX4_init_8
theorem i31_10 {d a b l0 t h Q} : Ev d 31 10 [l0] (.ref b :: .ref a :: t) h Q = (hk h a = 5 ∧ Ev d 31 13 [l0] t (wF h a 0 (.ref b)) Q) := en_putfield (cj := 4) mm31 dX4_init_10 (by decide +kernel) rfl
theorem i31_13 {d a t h Q} : Ev d 31 13 [some (.ref a)] t h Q = Ev d 31 14 [some (.ref a)] (.ref a :: t) h Q := en_aload_n mm31 dX4_init_13 rfl
theorem i31_14 {d l0 t h Q} : Ev d 31 14 [l0] t h Q = Ev d 31 17 [l0] (.int 700 :: t) h Q := en_sipush mm31 dX4_init_14 (by decide)
theorem i31_17 {d l0 t x h Q} : Ev d 31 17 [l0] (.int x :: t) h Q = (¬ (x < 0 ∨ 60000000 < x.toNatClampNeg) ∧ Ev d 31 19 [l0] (.ref (hN h) :: t) (alA h 10 x.toNatClampNeg) Q) := en_newI mm31 dX4_init_17
theorem i31_19 {d a b l0 t h Q} : Ev d 31 19 [l0] (.ref b :: .ref a :: t) h Q = (hk h a = 5 ∧ Ev d 31 22 [l0] t (wF h a 11 (.ref b)) Q) := en_putfield (cj := 4) mm31 dX4_init_19 (by decide +kernel) rfl
theorem i31_22 {d a t h Q} : Ev d 31 22 [some (.ref a)] t h Q = Ev d 31 23 [some (.ref a)] (.ref a :: t) h Q := en_aload_n mm31 dX4_init_22 rfl
theorem i31_23 {d l0 t h Q} : Ev d 31 23 [l0] t h Q = Ev d 31 24 [l0] (.int (-1) :: t) h Q := en_iconst mm31 dX4_init_23 (by decide)
theorem i31_24 {d a l0 t x h Q} : Ev d 31 24 [l0] (.int x :: .ref a :: t) h Q = (hk h a = 5 ∧ Ev d 31 27 [l0] t (wF h a 8 (.int x)) Q) := en_putfield (cj := 4) mm31 dX4_init_24 (by decide +kernel) rfl
theorem i31_27 {d a t h Q} : Ev d 31 27 [some (.ref a)] t h Q = Ev d 31 28 [some (.ref a)] (.ref a :: t) h Q := en_aload_n mm31 dX4_init_27 rfl
theorem i31_28 {d l0 t h Q} : Ev d 31 28 [l0] t h Q = Ev d 31 31 [l0] (.ref (hN h) :: t) (alO h 4 11 (dfl 3)) Q := en_new mm31 dX4_init_28 (by decide +kernel : look _ clsT = some (174, 3)) rfl
theorem i31_31 {d a l0 t h Q} : Ev d 31 31 [l0] (.ref a :: t) h Q = Ev d 31 32 [l0] (.ref a :: .ref a :: t) h Q := en_dup mm31 dX4_init_31
theorem i31_32 {d a l0 x1 x2 h Q} : Ev (d + 1) 31 32 [l0] [.ref a, x1, x2] h Q = (hk h a = 4 ∧ EvM d 30 [.ref a] h (konN (d + 1) 31 35 [l0] [x1, x2] Q)) := en_specialN mm31 dX4_init_32 (by decide +kernel : ml _ _ = some (5, 30)) (by decide) (rfl : mtab[30]? = some _) (by decide +kernel : npar _ = 0) rfl (by decide) rfl (of_decide_eq_true rfl) (len_cat (of_decide_eq_true rfl)) rfl rfl rfl
theorem i31_35 {d a b l0 t h Q} : Ev d 31 35 [l0] (.ref b :: .ref a :: t) h Q = (hk h a = 5 ∧ Ev d 31 38 [l0] t (wF h a 9 (.ref b)) Q) := en_putfield (cj := 4) mm31 dX4_init_35 (by decide +kernel) rfl
theorem i31_38 {d l0 h Q} : Ev d 31 38 [l0] [] h Q = Q (.inl none) h := en_return mm31 dX4_init_38 rfl
abbrev em32 : MI := (yX4_putWord, cX4_putWord, 3, none, 4, [])
theorem mm32 : mtab[32]? = some em32 := rfl
theorem in32 {d : Nat} {h : AH} {K : AO → AH → Prop} {v0 : Nat} {v1 : Int32} : EvM d 32 [(.ref v0), (.int v1)] h K = Ev d 32 0 [some (.ref v0), some (.int v1), none] [] h K := evm_in mm32 (of_decide_eq_true rfl) rfl
theorem i32_0 {d l0 l1 l2 t h Q} : Ev d 32 0 [l0, l1, l2] t h Q = Ev d 32 2 [l0, l1, l2] (.int 24 :: t) h Q := en_bipush mm32 dX4_putWord_0 (by decide)
theorem i32_2 {d l0 l1 l2 t x h Q} : Ev d 32 2 [l0, l1, l2] (.int x :: t) h Q = Ev d 32 3 [l0, nl l1, some (.int x)] t h Q := en_istore_n mm32 dX4_putWord_2 (of_decide_eq_true rfl) rfl
theorem i32_3 {d l0 l1 t x h Q} : Ev d 32 3 [l0, l1, some (.int x)] t h Q = Ev d 32 4 [l0, l1, some (.int x)] (.int x :: t) h Q := en_iload_n mm32 dX4_putWord_3 rfl
theorem i32_4 {d l0 l1 l2 t x h Q} : Ev d 32 4 [l0, l1, l2] (.int x :: t) h Q = if x < 0 then Ev d 32 46 [l0, l1, l2] t h Q else Ev d 32 7 [l0, l1, l2] t h Q := en_if_lt mm32 dX4_putWord_4 rfl
theorem i32_7 {d a l1 l2 t h Q} : Ev d 32 7 [some (.ref a), l1, l2] t h Q = Ev d 32 8 [some (.ref a), l1, l2] (.ref a :: t) h Q := en_aload_n mm32 dX4_putWord_7 rfl
theorem i32_8 {d a l0 l1 l2 t h Q} : Ev d 32 8 [l0, l1, l2] (.ref a :: t) h Q = (hk h a = 5 ∧ Ev d 32 11 [l0, l1, l2] (hF h a 1 :: t) h Q) := en_getfield (cj := 4) mm32 dX4_putWord_8 (by decide +kernel)
theorem i32_11 {d l0 l1 l2 t h Q} : Ev d 32 11 [l0, l1, l2] t h Q = Ev d 32 14 [l0, l1, l2] (.int 700 :: t) h Q := en_sipush mm32 dX4_putWord_11 (by decide)
theorem i32_14 {d l0 l1 l2 t x y h Q} : Ev d 32 14 [l0, l1, l2] (.int y :: .int x :: t) h Q = if y ≤ x then Ev d 32 40 [l0, l1, l2] t h Q else Ev d 32 17 [l0, l1, l2] t h Q := en_ic_ge mm32 dX4_putWord_14 rfl
theorem i32_17 {d a l1 l2 t h Q} : Ev d 32 17 [some (.ref a), l1, l2] t h Q = Ev d 32 18 [some (.ref a), l1, l2] (.ref a :: t) h Q := en_aload_n mm32 dX4_putWord_17 rfl
theorem i32_18 {d a l0 l1 l2 t h Q} : Ev d 32 18 [l0, l1, l2] (.ref a :: t) h Q = (hk h a = 5 ∧ Ev d 32 21 [l0, l1, l2] (hF h a 0 :: t) h Q) := en_getfield (cj := 4) mm32 dX4_putWord_18 (by decide +kernel)
theorem i32_21 {d a l1 l2 t h Q} : Ev d 32 21 [some (.ref a), l1, l2] t h Q = Ev d 32 22 [some (.ref a), l1, l2] (.ref a :: t) h Q := en_aload_n mm32 dX4_putWord_21 rfl
theorem i32_22 {d a l0 l1 l2 t h Q} : Ev d 32 22 [l0, l1, l2] (.ref a :: t) h Q = (hk h a = 5 ∧ Ev d 32 25 [l0, l1, l2] (hF h a 1 :: t) h Q) := en_getfield (cj := 4) mm32 dX4_putWord_22 (by decide +kernel)
theorem i32_25 {d l0 l2 t x h Q} : Ev d 32 25 [l0, some (.int x), l2] t h Q = Ev d 32 26 [l0, some (.int x), l2] (.int x :: t) h Q := en_iload_n mm32 dX4_putWord_25 rfl
theorem i32_26 {d l0 l1 t x h Q} : Ev d 32 26 [l0, l1, some (.int x)] t h Q = Ev d 32 27 [l0, l1, some (.int x)] (.int x :: t) h Q := en_iload_n mm32 dX4_putWord_26 rfl
theorem i32_27 {d l0 l1 l2 t x y h Q} : Ev d 32 27 [l0, l1, l2] (.int y :: .int x :: t) h Q = Ev d 32 28 [l0, l1, l2] (.int ((x.toUInt32 >>> (y.toUInt32 &&& Int32.toUInt32 31)).toInt32) :: t) h Q := en_iushr mm32 dX4_putWord_27
theorem i32_28 {d l0 l1 l2 t x h Q} : Ev d 32 28 [l0, l1, l2] (.int x :: t) h Q = Ev d 32 29 [l0, l1, l2] (.int x.toInt8.toInt32 :: t) h Q := en_i2b mm32 dX4_putWord_28
theorem i32_29 {d a j l0 l1 l2 t x h Q} : Ev d 32 29 [l0, l1, l2] (.int x :: .int j :: .ref a :: t) h Q = (hk h a = 11 ∧ inb j (hl h a) ∧ Ev d 32 30 [l0, l1, l2] t (wA h a (upd (hA h a) j.toNatClampNeg x.toInt8.toInt32)) Q) := en_bastore mm32 dX4_putWord_29
theorem i32_30 {d a l1 l2 t h Q} : Ev d 32 30 [some (.ref a), l1, l2] t h Q = Ev d 32 31 [some (.ref a), l1, l2] (.ref a :: t) h Q := en_aload_n mm32 dX4_putWord_30 rfl
theorem i32_31 {d a l0 l1 l2 t h Q} : Ev d 32 31 [l0, l1, l2] (.ref a :: t) h Q = Ev d 32 32 [l0, l1, l2] (.ref a :: .ref a :: t) h Q := en_dup mm32 dX4_putWord_31
theorem i32_32 {d a l0 l1 l2 t h Q} : Ev d 32 32 [l0, l1, l2] (.ref a :: t) h Q = (hk h a = 5 ∧ Ev d 32 35 [l0, l1, l2] (hF h a 1 :: t) h Q) := en_getfield (cj := 4) mm32 dX4_putWord_32 (by decide +kernel)
theorem i32_35 {d l0 l1 l2 t h Q} : Ev d 32 35 [l0, l1, l2] t h Q = Ev d 32 36 [l0, l1, l2] (.int 1 :: t) h Q := en_iconst mm32 dX4_putWord_35 (by decide)
theorem i32_36 {d l0 l1 l2 t x y h Q} : Ev d 32 36 [l0, l1, l2] (.int y :: .int x :: t) h Q = Ev d 32 37 [l0, l1, l2] (.int (x + y) :: t) h Q := en_iadd mm32 dX4_putWord_36
theorem i32_37 {d a l0 l1 l2 t x h Q} : Ev d 32 37 [l0, l1, l2] (.int x :: .ref a :: t) h Q = (hk h a = 5 ∧ Ev d 32 40 [l0, l1, l2] t (wF h a 1 (.int x)) Q) := en_putfield (cj := 4) mm32 dX4_putWord_37 (by decide +kernel) rfl
theorem i32_40 {d l0 l1 t x h Q} : Ev d 32 40 [l0, l1, some (.int x)] t h Q = Ev d 32 43 [l0, nl l1, some (.int (x + (-8)))] t h Q := en_iinc mm32 dX4_putWord_40 rfl (by decide) rfl
theorem i32_43 {d l0 l1 l2 t h Q} : Ev d 32 43 [l0, l1, l2] t h Q = Ev d 32 3 [l0, l1, l2] t h Q := en_goto mm32 dX4_putWord_43 rfl
theorem i32_46 {d l0 l1 l2 h Q} : Ev d 32 46 [l0, l1, l2] [] h Q = Q (.inl none) h := en_return mm32 dX4_putWord_46 rfl
abbrev em33 : MI := (yX4_begin, cX4_begin, 2, none, 4, [])
theorem mm33 : mtab[33]? = some em33 := rfl
theorem in33 {d : Nat} {h : AH} {K : AO → AH → Prop} {v0 : Nat} {v1 : Int32} : EvM d 33 [(.ref v0), (.int v1)] h K = Ev d 33 0 [some (.ref v0), some (.int v1)] [] h K := evm_in mm33 (of_decide_eq_true rfl) rfl
theorem i33_0 {d a l1 t h Q} : Ev d 33 0 [some (.ref a), l1] t h Q = Ev d 33 1 [some (.ref a), l1] (.ref a :: t) h Q := en_aload_n mm33 dX4_begin_0 rfl
theorem i33_1 {d l0 t x h Q} : Ev d 33 1 [l0, some (.int x)] t h Q = Ev d 33 2 [l0, some (.int x)] (.int x :: t) h Q := en_iload_n mm33 dX4_begin_1 rfl
theorem i33_2 {d l0 l1 t h Q} : Ev d 33 2 [l0, l1] t h Q = Ev d 33 3 [l0, l1] (.int 0 :: t) h Q := en_iconst mm33 dX4_begin_2 (by decide)
theorem i33_3 {d a l1 t h Q} : Ev d 33 3 [some (.ref a), l1] t h Q = Ev d 33 4 [some (.ref a), l1] (.ref a :: t) h Q := en_aload_n mm33 dX4_begin_3 rfl
theorem i33_4 {d a l0 l1 t h Q} : Ev d 33 4 [l0, l1] (.ref a :: t) h Q = (hk h a = 5 ∧ Ev d 33 7 [l0, l1] (hF h a 1 :: t) h Q) := en_getfield (cj := 4) mm33 dX4_begin_4 (by decide +kernel)
theorem i33_7 {d l0 l1 x0 x1 x2 x3 h Q} : Ev (d + 1) 33 7 [l0, l1] [x0, x1, x2, x3] h Q = EvM d 83 [x2, x1, x0] h (konN (d + 1) 33 10 [l0, l1] [x3] Q) := en_staticN mm33 dX4_begin_7 (by decide +kernel : ml _ _ = some (1, 83)) (by decide) (rfl : mtab[83]? = some _) (by decide +kernel : npar _ = 3) (of_decide_eq_true rfl) (len_cat (of_decide_eq_true rfl)) rfl rfl rfl
theorem i33_10 {d a l0 l1 t x h Q} : Ev d 33 10 [l0, l1] (.int x :: .ref a :: t) h Q = (hk h a = 5 ∧ Ev d 33 13 [l0, l1] t (wF h a 2 (.int x)) Q) := en_putfield (cj := 4) mm33 dX4_begin_10 (by decide +kernel) rfl
theorem i33_13 {d a l1 t h Q} : Ev d 33 13 [some (.ref a), l1] t h Q = Ev d 33 14 [some (.ref a), l1] (.ref a :: t) h Q := en_aload_n mm33 dX4_begin_13 rfl
theorem i33_14 {d l0 l1 t h Q} : Ev d 33 14 [l0, l1] t h Q = Ev d 33 15 [l0, l1] (.int 0 :: t) h Q := en_iconst mm33 dX4_begin_14 (by decide)
theorem i33_15 {d a l0 l1 t x h Q} : Ev d 33 15 [l0, l1] (.int x :: .ref a :: t) h Q = (hk h a = 5 ∧ Ev d 33 18 [l0, l1] t (wF h a 1 (.int x)) Q) := en_putfield (cj := 4) mm33 dX4_begin_15 (by decide +kernel) rfl
theorem i33_18 {d a l1 t h Q} : Ev d 33 18 [some (.ref a), l1] t h Q = Ev d 33 19 [some (.ref a), l1] (.ref a :: t) h Q := en_aload_n mm33 dX4_begin_18 rfl
theorem i33_19 {d l0 l1 t h Q} : Ev d 33 19 [l0, l1] t h Q = Ev d 33 20 [l0, l1] (.int 0 :: t) h Q := en_iconst mm33 dX4_begin_19 (by decide)
theorem i33_20 {d a l0 l1 t x h Q} : Ev d 33 20 [l0, l1] (.int x :: .ref a :: t) h Q = (hk h a = 5 ∧ Ev d 33 23 [l0, l1] t (wF h a 5 (.int x)) Q) := en_putfield (cj := 4) mm33 dX4_begin_20 (by decide +kernel) rfl
theorem i33_23 {d a l1 t h Q} : Ev d 33 23 [some (.ref a), l1] t h Q = Ev d 33 24 [some (.ref a), l1] (.ref a :: t) h Q := en_aload_n mm33 dX4_begin_23 rfl
theorem i33_24 {d l0 l1 t h Q} : Ev d 33 24 [l0, l1] t h Q = Ev d 33 25 [l0, l1] (.int (-1) :: t) h Q := en_iconst mm33 dX4_begin_24 (by decide)
theorem i33_25 {d a l0 l1 t x h Q} : Ev d 33 25 [l0, l1] (.int x :: .ref a :: t) h Q = (hk h a = 5 ∧ Ev d 33 28 [l0, l1] t (wF h a 8 (.int x)) Q) := en_putfield (cj := 4) mm33 dX4_begin_25 (by decide +kernel) rfl
theorem i33_28 {d a l1 t h Q} : Ev d 33 28 [some (.ref a), l1] t h Q = Ev d 33 29 [some (.ref a), l1] (.ref a :: t) h Q := en_aload_n mm33 dX4_begin_28 rfl
theorem i33_29 {d l0 l1 t h Q} : Ev d 33 29 [l0, l1] t h Q = Ev d 33 30 [l0, l1] (.int 0 :: t) h Q := en_iconst mm33 dX4_begin_29 (by decide)
theorem i33_30 {d l0 l1 t h Q a} {x : Int32} (hx : x = 0 ∨ x = 1) : Ev d 33 30 [l0, l1] (.int x :: .ref a :: t) h Q = (hk h a = 5 ∧ Ev d 33 33 [l0, l1] t (wF h a 10 (.int x)) Q) := en_putfield (cj := 4) mm33 dX4_begin_30 (by decide +kernel) (by rcases hx with rfl | rfl <;> rfl)
theorem i33_33 {d a l1 t h Q} : Ev d 33 33 [some (.ref a), l1] t h Q = Ev d 33 34 [some (.ref a), l1] (.ref a :: t) h Q := en_aload_n mm33 dX4_begin_33 rfl
theorem i33_34 {d l0 l1 t h Q} : Ev d 33 34 [l0, l1] t h Q = Ev d 33 37 [l0, l1] (.ref (hN h) :: t) (alO h 4 11 (dfl 3)) Q := en_new mm33 dX4_begin_34 (by decide +kernel : look _ clsT = some (174, 3)) rfl
theorem i33_37 {d a l0 l1 t h Q} : Ev d 33 37 [l0, l1] (.ref a :: t) h Q = Ev d 33 38 [l0, l1] (.ref a :: .ref a :: t) h Q := en_dup mm33 dX4_begin_37
theorem i33_38 {d a l0 l1 x1 x2 h Q} : Ev (d + 1) 33 38 [l0, l1] [.ref a, x1, x2] h Q = (hk h a = 4 ∧ EvM d 30 [.ref a] h (konN (d + 1) 33 41 [l0, l1] [x1, x2] Q)) := en_specialN mm33 dX4_begin_38 (by decide +kernel : ml _ _ = some (5, 30)) (by decide) (rfl : mtab[30]? = some _) (by decide +kernel : npar _ = 0) rfl (by decide) rfl (of_decide_eq_true rfl) (len_cat (of_decide_eq_true rfl)) rfl rfl rfl
theorem i33_41 {d a b l0 l1 t h Q} : Ev d 33 41 [l0, l1] (.ref b :: .ref a :: t) h Q = (hk h a = 5 ∧ Ev d 33 44 [l0, l1] t (wF h a 9 (.ref b)) Q) := en_putfield (cj := 4) mm33 dX4_begin_41 (by decide +kernel) rfl
theorem i33_44 {d a l1 t h Q} : Ev d 33 44 [some (.ref a), l1] t h Q = Ev d 33 45 [some (.ref a), l1] (.ref a :: t) h Q := en_aload_n mm33 dX4_begin_44 rfl
theorem i33_45 {d a l0 l1 h Q} : Ev (d + 1) 33 45 [l0, l1] [.ref a] h Q = (hk h a = 5 ∧ EvM d 48 [.ref a] h (konN (d + 1) 33 48 [l0, l1] [] Q)) := en_virtualN mm33 dX4_begin_45 (by decide +kernel : ml _ _ = some (2, 48)) (by decide) (rfl : mtab[48]? = some _) (by decide +kernel : npar _ = 0) rfl (by decide) rfl (of_decide_eq_true rfl) (len_cat (of_decide_eq_true rfl)) rfl rfl rfl
theorem i33_48 {d l0 l1 h Q} : Ev d 33 48 [l0, l1] [] h Q = Q (.inl none) h := en_return mm33 dX4_begin_48 rfl
abbrev em34 : MI := (yX4_fail, cX4_fail, 2, some .boolean, 4, [])
theorem mm34 : mtab[34]? = some em34 := rfl
theorem in34 {d : Nat} {h : AH} {K : AO → AH → Prop} {v0 : Nat} {v1 : Int32} : EvM d 34 [(.ref v0), (.int v1)] h K = Ev d 34 0 [some (.ref v0), some (.int v1)] [] h K := evm_in mm34 (of_decide_eq_true rfl) rfl
theorem i34_0 {d a l1 t h Q} : Ev d 34 0 [some (.ref a), l1] t h Q = Ev d 34 1 [some (.ref a), l1] (.ref a :: t) h Q := en_aload_n mm34 dX4_fail_0 rfl
theorem i34_1 {d l0 t x h Q} : Ev d 34 1 [l0, some (.int x)] t h Q = Ev d 34 2 [l0, some (.int x)] (.int x :: t) h Q := en_iload_n mm34 dX4_fail_1 rfl
theorem i34_2 {d a l0 l1 t x h Q} : Ev d 34 2 [l0, l1] (.int x :: .ref a :: t) h Q = (hk h a = 5 ∧ Ev d 34 5 [l0, l1] t (wF h a 7 (.int x)) Q) := en_putfield (cj := 4) mm34 dX4_fail_2 (by decide +kernel) rfl
theorem i34_5 {d a l1 t h Q} : Ev d 34 5 [some (.ref a), l1] t h Q = Ev d 34 6 [some (.ref a), l1] (.ref a :: t) h Q := en_aload_n mm34 dX4_fail_5 rfl
theorem i34_6 {d a l1 t h Q} : Ev d 34 6 [some (.ref a), l1] t h Q = Ev d 34 7 [some (.ref a), l1] (.ref a :: t) h Q := en_aload_n mm34 dX4_fail_6 rfl
theorem i34_7 {d a l0 l1 t h Q} : Ev d 34 7 [l0, l1] (.ref a :: t) h Q = (hk h a = 5 ∧ Ev d 34 10 [l0, l1] (hF h a 4 :: t) h Q) := en_getfield (cj := 4) mm34 dX4_fail_7 (by decide +kernel)
theorem i34_10 {d a l0 l1 t x h Q} : Ev d 34 10 [l0, l1] (.int x :: .ref a :: t) h Q = (hk h a = 5 ∧ Ev d 34 13 [l0, l1] t (wF h a 8 (.int x)) Q) := en_putfield (cj := 4) mm34 dX4_fail_10 (by decide +kernel) rfl
theorem i34_13 {d l0 l1 t h Q} : Ev d 34 13 [l0, l1] t h Q = Ev d 34 14 [l0, l1] (.int 0 :: t) h Q := en_iconst mm34 dX4_fail_13 (by decide)
theorem i34_14 {d l0 l1 x h Q} : Ev d 34 14 [l0, l1] [.int x] h Q = (narrow .boolean (.int x) = .int x ∧ Q (.inl (some (.int x))) h) := en_ireturn mm34 dX4_fail_14 rfl
abbrev em35 : MI := (yX4_readHeader, cX4_readHeader, 1, some .boolean, 4, [])
theorem mm35 : mtab[35]? = some em35 := rfl
theorem in35 {d : Nat} {h : AH} {K : AO → AH → Prop} {v0 : Nat} : EvM d 35 [(.ref v0)] h K = Ev d 35 0 [some (.ref v0)] [] h K := evm_in mm35 (of_decide_eq_true rfl) rfl
theorem i35_0 {d a t h Q} : Ev d 35 0 [some (.ref a)] t h Q = Ev d 35 1 [some (.ref a)] (.ref a :: t) h Q := en_aload_n mm35 dX4_readHeader_0 rfl
theorem i35_1 {d l0 t h Q} : Ev d 35 1 [l0] t h Q = Ev d 35 3 [l0] (litV 0 :: t) h Q := en_ldcS mm35 dX4_readHeader_1 (by decide +kernel) (by decide +kernel)
theorem i35_3 {d a l0 x0 h Q} : Ev (d + 1) 35 3 [l0] [x0, .ref a] h Q = (hk h a = 5 ∧ EvM d 47 [.ref a, x0] h (konN (d + 1) 35 6 [l0] [] Q)) := en_virtualN mm35 dX4_readHeader_3 (by decide +kernel : ml _ _ = some (2, 47)) (by decide) (rfl : mtab[47]? = some _) (by decide +kernel : npar _ = 1) rfl (by decide) rfl (of_decide_eq_true rfl) (len_cat (of_decide_eq_true rfl)) rfl rfl rfl
theorem i35_6 {d l0 t x h Q} : Ev d 35 6 [l0] (.int x :: t) h Q = if x = 0 then Ev d 35 9 [l0] t h Q else Ev d 35 16 [l0] t h Q := en_if_ne mm35 dX4_readHeader_6 rfl
theorem i35_9 {d a t h Q} : Ev d 35 9 [some (.ref a)] t h Q = Ev d 35 10 [some (.ref a)] (.ref a :: t) h Q := en_aload_n mm35 dX4_readHeader_9 rfl
theorem i35_10 {d l0 t h Q} : Ev d 35 10 [l0] t h Q = Ev d 35 12 [l0] (.int (-2) :: t) h Q := en_bipush mm35 dX4_readHeader_10 (by decide)
theorem i35_12 {d a l0 x0 h Q} : Ev (d + 1) 35 12 [l0] [x0, .ref a] h Q = (hk h a = 5 ∧ EvM d 34 [.ref a, x0] h (konN (d + 1) 35 15 [l0] [] Q)) := en_virtualN mm35 dX4_readHeader_12 (by decide +kernel : ml _ _ = some (2, 34)) (by decide) (rfl : mtab[34]? = some _) (by decide +kernel : npar _ = 1) rfl (by decide) rfl (of_decide_eq_true rfl) (len_cat (of_decide_eq_true rfl)) rfl rfl rfl
theorem i35_15 {d l0 x h Q} : Ev d 35 15 [l0] [.int x] h Q = (narrow .boolean (.int x) = .int x ∧ Q (.inl (some (.int x))) h) := en_ireturn mm35 dX4_readHeader_15 rfl
theorem i35_16 {d a t h Q} : Ev d 35 16 [some (.ref a)] t h Q = Ev d 35 17 [some (.ref a)] (.ref a :: t) h Q := en_aload_n mm35 dX4_readHeader_16 rfl
theorem i35_17 {d a l0 h Q} : Ev (d + 1) 35 17 [l0] [.ref a] h Q = (hk h a = 5 ∧ EvM d 48 [.ref a] h (konN (d + 1) 35 20 [l0] [] Q)) := en_virtualN mm35 dX4_readHeader_17 (by decide +kernel : ml _ _ = some (2, 48)) (by decide) (rfl : mtab[48]? = some _) (by decide +kernel : npar _ = 0) rfl (by decide) rfl (of_decide_eq_true rfl) (len_cat (of_decide_eq_true rfl)) rfl rfl rfl
theorem i35_20 {d a t h Q} : Ev d 35 20 [some (.ref a)] t h Q = Ev d 35 21 [some (.ref a)] (.ref a :: t) h Q := en_aload_n mm35 dX4_readHeader_20 rfl
theorem i35_21 {d l0 t h Q} : Ev d 35 21 [l0] t h Q = Ev d 35 22 [l0] (.int 1 :: t) h Q := en_iconst mm35 dX4_readHeader_21 (by decide)
theorem i35_22 {d l0 t h Q} : Ev d 35 22 [l0] t h Q = Ev d 35 24 [l0] (.int 9 :: t) h Q := en_bipush mm35 dX4_readHeader_22 (by decide)
theorem i35_24 {d a l0 x0 x1 h Q} : Ev (d + 1) 35 24 [l0] [x0, x1, .ref a] h Q = (hk h a = 5 ∧ EvM d 44 [.ref a, x1, x0] h (konN (d + 1) 35 27 [l0] [] Q)) := en_virtualN mm35 dX4_readHeader_24 (by decide +kernel : ml _ _ = some (2, 44)) (by decide) (rfl : mtab[44]? = some _) (by decide +kernel : npar _ = 2) rfl (by decide) rfl (of_decide_eq_true rfl) (len_cat (of_decide_eq_true rfl)) rfl rfl rfl
theorem i35_27 {d l0 t x h Q} : Ev d 35 27 [l0] (.int x :: t) h Q = if x = 0 then Ev d 35 30 [l0] t h Q else Ev d 35 32 [l0] t h Q := en_if_ne mm35 dX4_readHeader_27 rfl
theorem i35_30 {d l0 t h Q} : Ev d 35 30 [l0] t h Q = Ev d 35 31 [l0] (.int 0 :: t) h Q := en_iconst mm35 dX4_readHeader_30 (by decide)
theorem i35_31 {d l0 x h Q} : Ev d 35 31 [l0] [.int x] h Q = (narrow .boolean (.int x) = .int x ∧ Q (.inl (some (.int x))) h) := en_ireturn mm35 dX4_readHeader_31 rfl
theorem i35_32 {d a t h Q} : Ev d 35 32 [some (.ref a)] t h Q = Ev d 35 33 [some (.ref a)] (.ref a :: t) h Q := en_aload_n mm35 dX4_readHeader_32 rfl
theorem i35_33 {d a l0 t h Q} : Ev d 35 33 [l0] (.ref a :: t) h Q = (hk h a = 5 ∧ Ev d 35 36 [l0] (hF h a 9 :: t) h Q) := en_getfield (cj := 4) mm35 dX4_readHeader_33 (by decide +kernel)
theorem i35_36 {d a t h Q} : Ev d 35 36 [some (.ref a)] t h Q = Ev d 35 37 [some (.ref a)] (.ref a :: t) h Q := en_aload_n mm35 dX4_readHeader_36 rfl
theorem i35_37 {d a l0 t h Q} : Ev d 35 37 [l0] (.ref a :: t) h Q = (hk h a = 5 ∧ Ev d 35 40 [l0] (hF h a 6 :: t) h Q) := en_getfield (cj := 4) mm35 dX4_readHeader_37 (by decide +kernel)
theorem i35_40 {d a l0 t x h Q} : Ev d 35 40 [l0] (.int x :: .ref a :: t) h Q = (hk h a = 4 ∧ Ev d 35 43 [l0] t (wF h a 1 (.int x)) Q) := en_putfield (cj := 3) mm35 dX4_readHeader_40 (by decide +kernel) rfl
theorem i35_43 {d a t h Q} : Ev d 35 43 [some (.ref a)] t h Q = Ev d 35 44 [some (.ref a)] (.ref a :: t) h Q := en_aload_n mm35 dX4_readHeader_43 rfl
theorem i35_44 {d l0 t h Q} : Ev d 35 44 [l0] t h Q = Ev d 35 45 [l0] (.int 0 :: t) h Q := en_iconst mm35 dX4_readHeader_44 (by decide)
theorem i35_45 {d l0 t h Q} : Ev d 35 45 [l0] t h Q = Ev d 35 47 [l0] (.int 20 :: t) h Q := en_bipush mm35 dX4_readHeader_45 (by decide)
theorem i35_47 {d a l0 x0 x1 h Q} : Ev (d + 1) 35 47 [l0] [x0, x1, .ref a] h Q = (hk h a = 5 ∧ EvM d 44 [.ref a, x1, x0] h (konN (d + 1) 35 50 [l0] [] Q)) := en_virtualN mm35 dX4_readHeader_47 (by decide +kernel : ml _ _ = some (2, 44)) (by decide) (rfl : mtab[44]? = some _) (by decide +kernel : npar _ = 2) rfl (by decide) rfl (of_decide_eq_true rfl) (len_cat (of_decide_eq_true rfl)) rfl rfl rfl
theorem i35_50 {d l0 t x h Q} : Ev d 35 50 [l0] (.int x :: t) h Q = if x = 0 then Ev d 35 53 [l0] t h Q else Ev d 35 55 [l0] t h Q := en_if_ne mm35 dX4_readHeader_50 rfl
theorem i35_53 {d l0 t h Q} : Ev d 35 53 [l0] t h Q = Ev d 35 54 [l0] (.int 0 :: t) h Q := en_iconst mm35 dX4_readHeader_53 (by decide)
theorem i35_54 {d l0 x h Q} : Ev d 35 54 [l0] [.int x] h Q = (narrow .boolean (.int x) = .int x ∧ Q (.inl (some (.int x))) h) := en_ireturn mm35 dX4_readHeader_54 rfl
theorem i35_55 {d a t h Q} : Ev d 35 55 [some (.ref a)] t h Q = Ev d 35 56 [some (.ref a)] (.ref a :: t) h Q := en_aload_n mm35 dX4_readHeader_55 rfl
theorem i35_56 {d a l0 t h Q} : Ev d 35 56 [l0] (.ref a :: t) h Q = (hk h a = 5 ∧ Ev d 35 59 [l0] (hF h a 9 :: t) h Q) := en_getfield (cj := 4) mm35 dX4_readHeader_56 (by decide +kernel)
theorem i35_59 {d a t h Q} : Ev d 35 59 [some (.ref a)] t h Q = Ev d 35 60 [some (.ref a)] (.ref a :: t) h Q := en_aload_n mm35 dX4_readHeader_59 rfl
theorem i35_60 {d a l0 t h Q} : Ev d 35 60 [l0] (.ref a :: t) h Q = (hk h a = 5 ∧ Ev d 35 63 [l0] (hF h a 6 :: t) h Q) := en_getfield (cj := 4) mm35 dX4_readHeader_60 (by decide +kernel)
theorem i35_63 {d a l0 t x h Q} : Ev d 35 63 [l0] (.int x :: .ref a :: t) h Q = (hk h a = 4 ∧ Ev d 35 66 [l0] t (wF h a 2 (.int x)) Q) := en_putfield (cj := 3) mm35 dX4_readHeader_63 (by decide +kernel) rfl
theorem i35_66 {d a t h Q} : Ev d 35 66 [some (.ref a)] t h Q = Ev d 35 67 [some (.ref a)] (.ref a :: t) h Q := en_aload_n mm35 dX4_readHeader_66 rfl
theorem i35_67 {d l0 t h Q} : Ev d 35 67 [l0] t h Q = Ev d 35 69 [l0] (.int 59 :: t) h Q := en_bipush mm35 dX4_readHeader_67 (by decide)
theorem i35_69 {d a l0 x0 h Q} : Ev (d + 1) 35 69 [l0] [x0, .ref a] h Q = (hk h a = 5 ∧ EvM d 45 [.ref a, x0] h (konN (d + 1) 35 72 [l0] [] Q)) := en_virtualN mm35 dX4_readHeader_69 (by decide +kernel : ml _ _ = some (2, 45)) (by decide) (rfl : mtab[45]? = some _) (by decide +kernel : npar _ = 1) rfl (by decide) rfl (of_decide_eq_true rfl) (len_cat (of_decide_eq_true rfl)) rfl rfl rfl
theorem i35_72 {d l0 x h Q} : Ev d 35 72 [l0] [.int x] h Q = (narrow .boolean (.int x) = .int x ∧ Q (.inl (some (.int x))) h) := en_ireturn mm35 dX4_readHeader_72 rfl
abbrev em36 : MI := (yX4_readStatements, cX4_readStatements, 3, some .boolean, 4, [])
theorem mm36 : mtab[36]? = some em36 := rfl
theorem in36 {d : Nat} {h : AH} {K : AO → AH → Prop} {v0 : Nat} : EvM d 36 [(.ref v0)] h K = Ev d 36 0 [some (.ref v0), none, none] [] h K := evm_in mm36 (of_decide_eq_true rfl) rfl
theorem i36_0 {d l0 l1 l2 t h Q} : Ev d 36 0 [l0, l1, l2] t h Q = Ev d 36 1 [l0, l1, l2] (.int 0 :: t) h Q := en_iconst mm36 dX4_readStatements_0 (by decide)
theorem i36_1 {d l0 l1 l2 t x h Q} : Ev d 36 1 [l0, l1, l2] (.int x :: t) h Q = Ev d 36 2 [nl l0, some (.int x), l2] t h Q := en_istore_n mm36 dX4_readStatements_1 (of_decide_eq_true rfl) rfl
theorem i36_2 {d l0 l2 t x h Q} : Ev d 36 2 [l0, some (.int x), l2] t h Q = Ev d 36 3 [l0, some (.int x), l2] (.int x :: t) h Q := en_iload_n mm36 dX4_readStatements_2 rfl
theorem i36_3 {d a l1 l2 t h Q} : Ev d 36 3 [some (.ref a), l1, l2] t h Q = Ev d 36 4 [some (.ref a), l1, l2] (.ref a :: t) h Q := en_aload_n mm36 dX4_readStatements_3 rfl
theorem i36_4 {d a l0 l1 l2 t h Q} : Ev d 36 4 [l0, l1, l2] (.ref a :: t) h Q = (hk h a = 5 ∧ Ev d 36 7 [l0, l1, l2] (hF h a 2 :: t) h Q) := en_getfield (cj := 4) mm36 dX4_readStatements_4 (by decide +kernel)
theorem i36_7 {d l0 l1 l2 t x y h Q} : Ev d 36 7 [l0, l1, l2] (.int y :: .int x :: t) h Q = if y ≤ x then Ev d 36 100 [l0, l1, l2] t h Q else Ev d 36 10 [l0, l1, l2] t h Q := en_ic_ge mm36 dX4_readStatements_7 rfl
theorem i36_10 {d a l1 l2 t h Q} : Ev d 36 10 [some (.ref a), l1, l2] t h Q = Ev d 36 11 [some (.ref a), l1, l2] (.ref a :: t) h Q := en_aload_n mm36 dX4_readStatements_10 rfl
theorem i36_11 {d a l0 l1 l2 t h Q} : Ev d 36 11 [l0, l1, l2] (.ref a :: t) h Q = (hk h a = 5 ∧ Ev d 36 14 [l0, l1, l2] (hF h a 3 :: t) h Q) := en_getfield (cj := 4) mm36 dX4_readStatements_11 (by decide +kernel)
theorem i36_14 {d l0 l1 l2 t x h Q} : Ev d 36 14 [l0, l1, l2] (.int x :: t) h Q = if x = 0 then Ev d 36 100 [l0, l1, l2] t h Q else Ev d 36 17 [l0, l1, l2] t h Q := en_if_eq mm36 dX4_readStatements_14 rfl
theorem i36_17 {d a l1 l2 t h Q} : Ev d 36 17 [some (.ref a), l1, l2] t h Q = Ev d 36 18 [some (.ref a), l1, l2] (.ref a :: t) h Q := en_aload_n mm36 dX4_readStatements_17 rfl
theorem i36_18 {d l0 l1 l2 t h Q} : Ev d 36 18 [l0, l1, l2] t h Q = Ev d 36 20 [l0, l1, l2] (litV 1 :: t) h Q := en_ldcS mm36 dX4_readStatements_18 (by decide +kernel) (by decide +kernel)
theorem i36_20 {d a l0 l1 l2 x0 h Q} : Ev (d + 1) 36 20 [l0, l1, l2] [x0, .ref a] h Q = (hk h a = 5 ∧ EvM d 47 [.ref a, x0] h (konN (d + 1) 36 23 [l0, l1, l2] [] Q)) := en_virtualN mm36 dX4_readStatements_20 (by decide +kernel : ml _ _ = some (2, 47)) (by decide) (rfl : mtab[47]? = some _) (by decide +kernel : npar _ = 1) rfl (by decide) rfl (of_decide_eq_true rfl) (len_cat (of_decide_eq_true rfl)) rfl rfl rfl
theorem i36_23 {d l0 l1 l2 t x h Q} : Ev d 36 23 [l0, l1, l2] (.int x :: t) h Q = if x = 0 then Ev d 36 33 [l0, l1, l2] t h Q else Ev d 36 26 [l0, l1, l2] t h Q := en_if_eq mm36 dX4_readStatements_23 rfl
theorem i36_26 {d a l1 l2 t h Q} : Ev d 36 26 [some (.ref a), l1, l2] t h Q = Ev d 36 27 [some (.ref a), l1, l2] (.ref a :: t) h Q := en_aload_n mm36 dX4_readStatements_26 rfl
theorem i36_27 {d a l0 l1 l2 h Q} : Ev (d + 1) 36 27 [l0, l1, l2] [.ref a] h Q = (hk h a = 5 ∧ EvM d 37 [.ref a] h (konN (d + 1) 36 30 [l0, l1, l2] [] Q)) := en_virtualN mm36 dX4_readStatements_27 (by decide +kernel : ml _ _ = some (2, 37)) (by decide) (rfl : mtab[37]? = some _) (by decide +kernel : npar _ = 0) rfl (by decide) rfl (of_decide_eq_true rfl) (len_cat (of_decide_eq_true rfl)) rfl rfl rfl
theorem i36_30 {d l0 l1 l2 t h Q} : Ev d 36 30 [l0, l1, l2] t h Q = Ev d 36 78 [l0, l1, l2] t h Q := en_goto mm36 dX4_readStatements_30 rfl
theorem i36_33 {d a l1 l2 t h Q} : Ev d 36 33 [some (.ref a), l1, l2] t h Q = Ev d 36 34 [some (.ref a), l1, l2] (.ref a :: t) h Q := en_aload_n mm36 dX4_readStatements_33 rfl
theorem i36_34 {d l0 l1 l2 t h Q} : Ev d 36 34 [l0, l1, l2] t h Q = Ev d 36 36 [l0, l1, l2] (litV 2 :: t) h Q := en_ldcS mm36 dX4_readStatements_34 (by decide +kernel) (by decide +kernel)
theorem i36_36 {d a l0 l1 l2 x0 h Q} : Ev (d + 1) 36 36 [l0, l1, l2] [x0, .ref a] h Q = (hk h a = 5 ∧ EvM d 47 [.ref a, x0] h (konN (d + 1) 36 39 [l0, l1, l2] [] Q)) := en_virtualN mm36 dX4_readStatements_36 (by decide +kernel : ml _ _ = some (2, 47)) (by decide) (rfl : mtab[47]? = some _) (by decide +kernel : npar _ = 1) rfl (by decide) rfl (of_decide_eq_true rfl) (len_cat (of_decide_eq_true rfl)) rfl rfl rfl
theorem i36_39 {d l0 l1 l2 t x h Q} : Ev d 36 39 [l0, l1, l2] (.int x :: t) h Q = if x = 0 then Ev d 36 49 [l0, l1, l2] t h Q else Ev d 36 42 [l0, l1, l2] t h Q := en_if_eq mm36 dX4_readStatements_39 rfl
theorem i36_42 {d a l1 l2 t h Q} : Ev d 36 42 [some (.ref a), l1, l2] t h Q = Ev d 36 43 [some (.ref a), l1, l2] (.ref a :: t) h Q := en_aload_n mm36 dX4_readStatements_42 rfl
theorem i36_43 {d a l0 l1 l2 h Q} : Ev (d + 1) 36 43 [l0, l1, l2] [.ref a] h Q = (hk h a = 5 ∧ EvM d 38 [.ref a] h (konN (d + 1) 36 46 [l0, l1, l2] [] Q)) := en_virtualN mm36 dX4_readStatements_43 (by decide +kernel : ml _ _ = some (2, 38)) (by decide) (rfl : mtab[38]? = some _) (by decide +kernel : npar _ = 0) rfl (by decide) rfl (of_decide_eq_true rfl) (len_cat (of_decide_eq_true rfl)) rfl rfl rfl
theorem i36_46 {d l0 l1 l2 t h Q} : Ev d 36 46 [l0, l1, l2] t h Q = Ev d 36 78 [l0, l1, l2] t h Q := en_goto mm36 dX4_readStatements_46 rfl
theorem i36_49 {d a l1 l2 t h Q} : Ev d 36 49 [some (.ref a), l1, l2] t h Q = Ev d 36 50 [some (.ref a), l1, l2] (.ref a :: t) h Q := en_aload_n mm36 dX4_readStatements_49 rfl
theorem i36_50 {d l0 l1 l2 t h Q} : Ev d 36 50 [l0, l1, l2] t h Q = Ev d 36 52 [l0, l1, l2] (litV 3 :: t) h Q := en_ldcS mm36 dX4_readStatements_50 (by decide +kernel) (by decide +kernel)
theorem i36_52 {d a l0 l1 l2 x0 h Q} : Ev (d + 1) 36 52 [l0, l1, l2] [x0, .ref a] h Q = (hk h a = 5 ∧ EvM d 47 [.ref a, x0] h (konN (d + 1) 36 55 [l0, l1, l2] [] Q)) := en_virtualN mm36 dX4_readStatements_52 (by decide +kernel : ml _ _ = some (2, 47)) (by decide) (rfl : mtab[47]? = some _) (by decide +kernel : npar _ = 1) rfl (by decide) rfl (of_decide_eq_true rfl) (len_cat (of_decide_eq_true rfl)) rfl rfl rfl
theorem i36_55 {d l0 l1 l2 t x h Q} : Ev d 36 55 [l0, l1, l2] (.int x :: t) h Q = if x = 0 then Ev d 36 72 [l0, l1, l2] t h Q else Ev d 36 58 [l0, l1, l2] t h Q := en_if_eq mm36 dX4_readStatements_55 rfl
theorem i36_58 {d a l1 l2 t h Q} : Ev d 36 58 [some (.ref a), l1, l2] t h Q = Ev d 36 59 [some (.ref a), l1, l2] (.ref a :: t) h Q := en_aload_n mm36 dX4_readStatements_58 rfl
theorem i36_59 {d a l0 l1 l2 t h Q} : Ev d 36 59 [l0, l1, l2] (.ref a :: t) h Q = (hk h a = 5 ∧ Ev d 36 62 [l0, l1, l2] (hF h a 10 :: t) h Q) := en_getfield (cj := 4) mm36 dX4_readStatements_59 (by decide +kernel)
theorem i36_62 {d l0 l1 l2 t x h Q} : Ev d 36 62 [l0, l1, l2] (.int x :: t) h Q = if x = 0 then Ev d 36 65 [l0, l1, l2] t h Q else Ev d 36 72 [l0, l1, l2] t h Q := en_if_ne mm36 dX4_readStatements_62 rfl
theorem i36_65 {d a l1 l2 t h Q} : Ev d 36 65 [some (.ref a), l1, l2] t h Q = Ev d 36 66 [some (.ref a), l1, l2] (.ref a :: t) h Q := en_aload_n mm36 dX4_readStatements_65 rfl
theorem i36_66 {d a l0 l1 l2 h Q} : Ev (d + 1) 36 66 [l0, l1, l2] [.ref a] h Q = (hk h a = 5 ∧ EvM d 39 [.ref a] h (konN (d + 1) 36 69 [l0, l1, l2] [] Q)) := en_virtualN mm36 dX4_readStatements_66 (by decide +kernel : ml _ _ = some (2, 39)) (by decide) (rfl : mtab[39]? = some _) (by decide +kernel : npar _ = 0) rfl (by decide) rfl (of_decide_eq_true rfl) (len_cat (of_decide_eq_true rfl)) rfl rfl rfl
theorem i36_69 {d l0 l1 l2 t h Q} : Ev d 36 69 [l0, l1, l2] t h Q = Ev d 36 78 [l0, l1, l2] t h Q := en_goto mm36 dX4_readStatements_69 rfl
theorem i36_72 {d a l1 l2 t h Q} : Ev d 36 72 [some (.ref a), l1, l2] t h Q = Ev d 36 73 [some (.ref a), l1, l2] (.ref a :: t) h Q := en_aload_n mm36 dX4_readStatements_72 rfl
theorem i36_73 {d l0 l1 l2 t h Q} : Ev d 36 73 [l0, l1, l2] t h Q = Ev d 36 75 [l0, l1, l2] (.int (-2) :: t) h Q := en_bipush mm36 dX4_readStatements_73 (by decide)
theorem i36_75 {d a l0 l1 l2 x0 h Q} : Ev (d + 1) 36 75 [l0, l1, l2] [x0, .ref a] h Q = (hk h a = 5 ∧ EvM d 34 [.ref a, x0] h (konN (d + 1) 36 78 [l0, l1, l2] [] Q)) := en_virtualN mm36 dX4_readStatements_75 (by decide +kernel : ml _ _ = some (2, 34)) (by decide) (rfl : mtab[34]? = some _) (by decide +kernel : npar _ = 1) rfl (by decide) rfl (of_decide_eq_true rfl) (len_cat (of_decide_eq_true rfl)) rfl rfl rfl
theorem i36_78 {d l0 l1 l2 t x h Q} : Ev d 36 78 [l0, l1, l2] (.int x :: t) h Q = Ev d 36 79 [l0, nl l1, some (.int x)] t h Q := en_istore_n mm36 dX4_readStatements_78 (of_decide_eq_true rfl) rfl
theorem i36_79 {d l0 l1 t x h Q} : Ev d 36 79 [l0, l1, some (.int x)] t h Q = Ev d 36 80 [l0, l1, some (.int x)] (.int x :: t) h Q := en_iload_n mm36 dX4_readStatements_79 rfl
theorem i36_80 {d l0 l1 l2 t x h Q} : Ev d 36 80 [l0, l1, l2] (.int x :: t) h Q = if x = 0 then Ev d 36 92 [l0, l1, l2] t h Q else Ev d 36 83 [l0, l1, l2] t h Q := en_if_eq mm36 dX4_readStatements_80 rfl
theorem i36_83 {d a l1 l2 t h Q} : Ev d 36 83 [some (.ref a), l1, l2] t h Q = Ev d 36 84 [some (.ref a), l1, l2] (.ref a :: t) h Q := en_aload_n mm36 dX4_readStatements_83 rfl
theorem i36_84 {d l0 l1 l2 t h Q} : Ev d 36 84 [l0, l1, l2] t h Q = Ev d 36 86 [l0, l1, l2] (.int 59 :: t) h Q := en_bipush mm36 dX4_readStatements_84 (by decide)
theorem i36_86 {d a l0 l1 l2 x0 h Q} : Ev (d + 1) 36 86 [l0, l1, l2] [x0, .ref a] h Q = (hk h a = 5 ∧ EvM d 45 [.ref a, x0] h (konN (d + 1) 36 89 [l0, l1, l2] [] Q)) := en_virtualN mm36 dX4_readStatements_86 (by decide +kernel : ml _ _ = some (2, 45)) (by decide) (rfl : mtab[45]? = some _) (by decide +kernel : npar _ = 1) rfl (by decide) rfl (of_decide_eq_true rfl) (len_cat (of_decide_eq_true rfl)) rfl rfl rfl
theorem i36_89 {d l0 l1 l2 t x h Q} : Ev d 36 89 [l0, l1, l2] (.int x :: t) h Q = if x = 0 then Ev d 36 92 [l0, l1, l2] t h Q else Ev d 36 94 [l0, l1, l2] t h Q := en_if_ne mm36 dX4_readStatements_89 rfl
theorem i36_92 {d l0 l1 l2 t h Q} : Ev d 36 92 [l0, l1, l2] t h Q = Ev d 36 93 [l0, l1, l2] (.int 0 :: t) h Q := en_iconst mm36 dX4_readStatements_92 (by decide)
theorem i36_93 {d l0 l1 l2 x h Q} : Ev d 36 93 [l0, l1, l2] [.int x] h Q = (narrow .boolean (.int x) = .int x ∧ Q (.inl (some (.int x))) h) := en_ireturn mm36 dX4_readStatements_93 rfl
theorem i36_94 {d l0 l2 t x h Q} : Ev d 36 94 [l0, some (.int x), l2] t h Q = Ev d 36 97 [nl l0, some (.int (x + 1)), l2] t h Q := en_iinc mm36 dX4_readStatements_94 rfl (by decide) rfl
theorem i36_97 {d l0 l1 l2 t h Q} : Ev d 36 97 [l0, l1, l2] t h Q = Ev d 36 2 [l0, l1, l2] t h Q := en_goto mm36 dX4_readStatements_97 rfl
theorem i36_100 {d a l1 l2 t h Q} : Ev d 36 100 [some (.ref a), l1, l2] t h Q = Ev d 36 101 [some (.ref a), l1, l2] (.ref a :: t) h Q := en_aload_n mm36 dX4_readStatements_100 rfl
theorem i36_101 {d a l0 l1 l2 t h Q} : Ev d 36 101 [l0, l1, l2] (.ref a :: t) h Q = (hk h a = 5 ∧ Ev d 36 104 [l0, l1, l2] (hF h a 9 :: t) h Q) := en_getfield (cj := 4) mm36 dX4_readStatements_101 (by decide +kernel)
theorem i36_104 {d a l0 l1 l2 t h Q} : Ev d 36 104 [l0, l1, l2] (.ref a :: t) h Q = (hk h a = 4 ∧ Ev d 36 107 [l0, l1, l2] (hF h a 0 :: t) h Q) := en_getfield (cj := 3) mm36 dX4_readStatements_104 (by decide +kernel)
theorem i36_107 {d l0 l1 l2 t x h Q} : Ev d 36 107 [l0, l1, l2] (.int x :: t) h Q = if 0 < x then Ev d 36 119 [l0, l1, l2] t h Q else Ev d 36 110 [l0, l1, l2] t h Q := en_if_gt mm36 dX4_readStatements_107 rfl
theorem i36_110 {d a l1 l2 t h Q} : Ev d 36 110 [some (.ref a), l1, l2] t h Q = Ev d 36 111 [some (.ref a), l1, l2] (.ref a :: t) h Q := en_aload_n mm36 dX4_readStatements_110 rfl
theorem i36_111 {d l0 l1 l2 t h Q} : Ev d 36 111 [l0, l1, l2] t h Q = Ev d 36 113 [l0, l1, l2] (.int (-2) :: t) h Q := en_bipush mm36 dX4_readStatements_111 (by decide)
theorem i36_113 {d a l0 l1 l2 x0 h Q} : Ev (d + 1) 36 113 [l0, l1, l2] [x0, .ref a] h Q = (hk h a = 5 ∧ EvM d 34 [.ref a, x0] h (konN (d + 1) 36 116 [l0, l1, l2] [] Q)) := en_virtualN mm36 dX4_readStatements_113 (by decide +kernel : ml _ _ = some (2, 34)) (by decide) (rfl : mtab[34]? = some _) (by decide +kernel : npar _ = 1) rfl (by decide) rfl (of_decide_eq_true rfl) (len_cat (of_decide_eq_true rfl)) rfl rfl rfl
theorem i36_116 {d l0 l1 l2 t x h Q} : Ev d 36 116 [l0, l1, l2] (.int x :: t) h Q = if x = 0 then Ev d 36 123 [l0, l1, l2] t h Q else Ev d 36 119 [l0, l1, l2] t h Q := en_if_eq mm36 dX4_readStatements_116 rfl
theorem i36_119 {d l0 l1 l2 t h Q} : Ev d 36 119 [l0, l1, l2] t h Q = Ev d 36 120 [l0, l1, l2] (.int 1 :: t) h Q := en_iconst mm36 dX4_readStatements_119 (by decide)
theorem i36_120 {d l0 l1 l2 t h Q} : Ev d 36 120 [l0, l1, l2] t h Q = Ev d 36 124 [l0, l1, l2] t h Q := en_goto mm36 dX4_readStatements_120 rfl
theorem i36_123 {d l0 l1 l2 t h Q} : Ev d 36 123 [l0, l1, l2] t h Q = Ev d 36 124 [l0, l1, l2] (.int 0 :: t) h Q := en_iconst mm36 dX4_readStatements_123 (by decide)
theorem i36_124 {d l0 l1 l2 x h Q} : Ev d 36 124 [l0, l1, l2] [.int x] h Q = (narrow .boolean (.int x) = .int x ∧ Q (.inl (some (.int x))) h) := en_ireturn mm36 dX4_readStatements_124 rfl
abbrev em37 : MI := (yX4_readZone, cX4_readZone, 2, some .boolean, 4, [])
theorem mm37 : mtab[37]? = some em37 := rfl
theorem in37 {d : Nat} {h : AH} {K : AO → AH → Prop} {v0 : Nat} : EvM d 37 [(.ref v0)] h K = Ev d 37 0 [some (.ref v0), none] [] h K := evm_in mm37 (of_decide_eq_true rfl) rfl
theorem i37_0 {d a l1 t h Q} : Ev d 37 0 [some (.ref a), l1] t h Q = Ev d 37 1 [some (.ref a), l1] (.ref a :: t) h Q := en_aload_n mm37 dX4_readZone_0 rfl
theorem i37_1 {d a l0 l1 t h Q} : Ev d 37 1 [l0, l1] (.ref a :: t) h Q = (hk h a = 5 ∧ Ev d 37 4 [l0, l1] (hF h a 9 :: t) h Q) := en_getfield (cj := 4) mm37 dX4_readZone_1 (by decide +kernel)
theorem i37_4 {d a l0 l1 t h Q} : Ev d 37 4 [l0, l1] (.ref a :: t) h Q = (hk h a = 4 ∧ Ev d 37 7 [l0, l1] (hF h a 0 :: t) h Q) := en_getfield (cj := 3) mm37 dX4_readZone_4 (by decide +kernel)
theorem i37_7 {d l0 l1 t x h Q} : Ev d 37 7 [l0, l1] (.int x :: t) h Q = Ev d 37 8 [nl l0, some (.int x)] t h Q := en_istore_n mm37 dX4_readZone_7 (of_decide_eq_true rfl) rfl
theorem i37_8 {d l0 t x h Q} : Ev d 37 8 [l0, some (.int x)] t h Q = Ev d 37 9 [l0, some (.int x)] (.int x :: t) h Q := en_iload_n mm37 dX4_readZone_8 rfl
theorem i37_9 {d l0 l1 t h Q} : Ev d 37 9 [l0, l1] t h Q = Ev d 37 11 [l0, l1] (.int 6 :: t) h Q := en_bipush mm37 dX4_readZone_9 (by decide)
theorem i37_11 {d l0 l1 t x y h Q} : Ev d 37 11 [l0, l1] (.int y :: .int x :: t) h Q = if x < y then Ev d 37 21 [l0, l1] t h Q else Ev d 37 14 [l0, l1] t h Q := en_ic_lt mm37 dX4_readZone_11 rfl
theorem i37_14 {d a l1 t h Q} : Ev d 37 14 [some (.ref a), l1] t h Q = Ev d 37 15 [some (.ref a), l1] (.ref a :: t) h Q := en_aload_n mm37 dX4_readZone_14 rfl
theorem i37_15 {d l0 l1 t h Q} : Ev d 37 15 [l0, l1] t h Q = Ev d 37 17 [l0, l1] (.int (-4) :: t) h Q := en_bipush mm37 dX4_readZone_15 (by decide)
theorem i37_17 {d a l0 l1 x0 h Q} : Ev (d + 1) 37 17 [l0, l1] [x0, .ref a] h Q = (hk h a = 5 ∧ EvM d 34 [.ref a, x0] h (konN (d + 1) 37 20 [l0, l1] [] Q)) := en_virtualN mm37 dX4_readZone_17 (by decide +kernel : ml _ _ = some (2, 34)) (by decide) (rfl : mtab[34]? = some _) (by decide +kernel : npar _ = 1) rfl (by decide) rfl (of_decide_eq_true rfl) (len_cat (of_decide_eq_true rfl)) rfl rfl rfl
theorem i37_20 {d l0 l1 x h Q} : Ev d 37 20 [l0, l1] [.int x] h Q = (narrow .boolean (.int x) = .int x ∧ Q (.inl (some (.int x))) h) := en_ireturn mm37 dX4_readZone_20 rfl
theorem i37_21 {d a l1 t h Q} : Ev d 37 21 [some (.ref a), l1] t h Q = Ev d 37 22 [some (.ref a), l1] (.ref a :: t) h Q := en_aload_n mm37 dX4_readZone_21 rfl
theorem i37_22 {d a l0 l1 h Q} : Ev (d + 1) 37 22 [l0, l1] [.ref a] h Q = (hk h a = 5 ∧ EvM d 48 [.ref a] h (konN (d + 1) 37 25 [l0, l1] [] Q)) := en_virtualN mm37 dX4_readZone_22 (by decide +kernel : ml _ _ = some (2, 48)) (by decide) (rfl : mtab[48]? = some _) (by decide +kernel : npar _ = 0) rfl (by decide) rfl (of_decide_eq_true rfl) (len_cat (of_decide_eq_true rfl)) rfl rfl rfl
theorem i37_25 {d a l1 t h Q} : Ev d 37 25 [some (.ref a), l1] t h Q = Ev d 37 26 [some (.ref a), l1] (.ref a :: t) h Q := en_aload_n mm37 dX4_readZone_25 rfl
theorem i37_26 {d l0 l1 t h Q} : Ev d 37 26 [l0, l1] t h Q = Ev d 37 28 [l0, l1] (.int 100 :: t) h Q := en_bipush mm37 dX4_readZone_26 (by decide)
theorem i37_28 {d l0 l1 t h Q} : Ev d 37 28 [l0, l1] t h Q = Ev d 37 31 [l0, l1] (.int 900 :: t) h Q := en_sipush mm37 dX4_readZone_28 (by decide)
theorem i37_31 {d a l0 l1 x0 x1 h Q} : Ev (d + 1) 37 31 [l0, l1] [x0, x1, .ref a] h Q = (hk h a = 5 ∧ EvM d 44 [.ref a, x1, x0] h (konN (d + 1) 37 34 [l0, l1] [] Q)) := en_virtualN mm37 dX4_readZone_31 (by decide +kernel : ml _ _ = some (2, 44)) (by decide) (rfl : mtab[44]? = some _) (by decide +kernel : npar _ = 2) rfl (by decide) rfl (of_decide_eq_true rfl) (len_cat (of_decide_eq_true rfl)) rfl rfl rfl
theorem i37_34 {d l0 l1 t x h Q} : Ev d 37 34 [l0, l1] (.int x :: t) h Q = if x = 0 then Ev d 37 37 [l0, l1] t h Q else Ev d 37 39 [l0, l1] t h Q := en_if_ne mm37 dX4_readZone_34 rfl
theorem i37_37 {d l0 l1 t h Q} : Ev d 37 37 [l0, l1] t h Q = Ev d 37 38 [l0, l1] (.int 0 :: t) h Q := en_iconst mm37 dX4_readZone_37 (by decide)
theorem i37_38 {d l0 l1 x h Q} : Ev d 37 38 [l0, l1] [.int x] h Q = (narrow .boolean (.int x) = .int x ∧ Q (.inl (some (.int x))) h) := en_ireturn mm37 dX4_readZone_38 rfl
theorem i37_39 {d a l1 t h Q} : Ev d 37 39 [some (.ref a), l1] t h Q = Ev d 37 40 [some (.ref a), l1] (.ref a :: t) h Q := en_aload_n mm37 dX4_readZone_39 rfl
theorem i37_40 {d a l0 l1 t h Q} : Ev d 37 40 [l0, l1] (.ref a :: t) h Q = (hk h a = 5 ∧ Ev d 37 43 [l0, l1] (hF h a 9 :: t) h Q) := en_getfield (cj := 4) mm37 dX4_readZone_40 (by decide +kernel)
theorem i37_43 {d a l0 l1 t h Q} : Ev d 37 43 [l0, l1] (.ref a :: t) h Q = (hk h a = 4 ∧ Ev d 37 46 [l0, l1] (hF h a 3 :: t) h Q) := en_getfield (cj := 3) mm37 dX4_readZone_43 (by decide +kernel)
theorem i37_46 {d l0 t x h Q} : Ev d 37 46 [l0, some (.int x)] t h Q = Ev d 37 47 [l0, some (.int x)] (.int x :: t) h Q := en_iload_n mm37 dX4_readZone_46 rfl
theorem i37_47 {d a l1 t h Q} : Ev d 37 47 [some (.ref a), l1] t h Q = Ev d 37 48 [some (.ref a), l1] (.ref a :: t) h Q := en_aload_n mm37 dX4_readZone_47 rfl
theorem i37_48 {d a l0 l1 t h Q} : Ev d 37 48 [l0, l1] (.ref a :: t) h Q = (hk h a = 5 ∧ Ev d 37 51 [l0, l1] (hF h a 6 :: t) h Q) := en_getfield (cj := 4) mm37 dX4_readZone_48 (by decide +kernel)
theorem i37_51 {d a j l0 l1 t x h Q} : Ev d 37 51 [l0, l1] (.int x :: .int j :: .ref a :: t) h Q = (hk h a = 10 ∧ inb j (hl h a) ∧ Ev d 37 52 [l0, l1] t (wA h a (upd (hA h a) j.toNatClampNeg x)) Q) := en_iastore mm37 dX4_readZone_51
theorem i37_52 {d a l1 t h Q} : Ev d 37 52 [some (.ref a), l1] t h Q = Ev d 37 53 [some (.ref a), l1] (.ref a :: t) h Q := en_aload_n mm37 dX4_readZone_52 rfl
theorem i37_53 {d l0 l1 t h Q} : Ev d 37 53 [l0, l1] t h Q = Ev d 37 54 [l0, l1] (.int 1 :: t) h Q := en_iconst mm37 dX4_readZone_53 (by decide)
theorem i37_54 {d l0 l1 t h Q} : Ev d 37 54 [l0, l1] t h Q = Ev d 37 56 [l0, l1] (.int 99 :: t) h Q := en_bipush mm37 dX4_readZone_54 (by decide)
theorem i37_56 {d a l0 l1 x0 x1 h Q} : Ev (d + 1) 37 56 [l0, l1] [x0, x1, .ref a] h Q = (hk h a = 5 ∧ EvM d 44 [.ref a, x1, x0] h (konN (d + 1) 37 59 [l0, l1] [] Q)) := en_virtualN mm37 dX4_readZone_56 (by decide +kernel : ml _ _ = some (2, 44)) (by decide) (rfl : mtab[44]? = some _) (by decide +kernel : npar _ = 2) rfl (by decide) rfl (of_decide_eq_true rfl) (len_cat (of_decide_eq_true rfl)) rfl rfl rfl
theorem i37_59 {d l0 l1 t x h Q} : Ev d 37 59 [l0, l1] (.int x :: t) h Q = if x = 0 then Ev d 37 62 [l0, l1] t h Q else Ev d 37 64 [l0, l1] t h Q := en_if_ne mm37 dX4_readZone_59 rfl
theorem i37_62 {d l0 l1 t h Q} : Ev d 37 62 [l0, l1] t h Q = Ev d 37 63 [l0, l1] (.int 0 :: t) h Q := en_iconst mm37 dX4_readZone_62 (by decide)
theorem i37_63 {d l0 l1 x h Q} : Ev d 37 63 [l0, l1] [.int x] h Q = (narrow .boolean (.int x) = .int x ∧ Q (.inl (some (.int x))) h) := en_ireturn mm37 dX4_readZone_63 rfl
theorem i37_64 {d a l1 t h Q} : Ev d 37 64 [some (.ref a), l1] t h Q = Ev d 37 65 [some (.ref a), l1] (.ref a :: t) h Q := en_aload_n mm37 dX4_readZone_64 rfl
theorem i37_65 {d a l0 l1 t h Q} : Ev d 37 65 [l0, l1] (.ref a :: t) h Q = (hk h a = 5 ∧ Ev d 37 68 [l0, l1] (hF h a 9 :: t) h Q) := en_getfield (cj := 4) mm37 dX4_readZone_65 (by decide +kernel)
theorem i37_68 {d a l0 l1 t h Q} : Ev d 37 68 [l0, l1] (.ref a :: t) h Q = (hk h a = 4 ∧ Ev d 37 71 [l0, l1] (hF h a 4 :: t) h Q) := en_getfield (cj := 3) mm37 dX4_readZone_68 (by decide +kernel)
theorem i37_71 {d l0 t x h Q} : Ev d 37 71 [l0, some (.int x)] t h Q = Ev d 37 72 [l0, some (.int x)] (.int x :: t) h Q := en_iload_n mm37 dX4_readZone_71 rfl
theorem i37_72 {d a l1 t h Q} : Ev d 37 72 [some (.ref a), l1] t h Q = Ev d 37 73 [some (.ref a), l1] (.ref a :: t) h Q := en_aload_n mm37 dX4_readZone_72 rfl
theorem i37_73 {d a l0 l1 t h Q} : Ev d 37 73 [l0, l1] (.ref a :: t) h Q = (hk h a = 5 ∧ Ev d 37 76 [l0, l1] (hF h a 6 :: t) h Q) := en_getfield (cj := 4) mm37 dX4_readZone_73 (by decide +kernel)
theorem i37_76 {d a j l0 l1 t x h Q} : Ev d 37 76 [l0, l1] (.int x :: .int j :: .ref a :: t) h Q = (hk h a = 10 ∧ inb j (hl h a) ∧ Ev d 37 77 [l0, l1] t (wA h a (upd (hA h a) j.toNatClampNeg x)) Q) := en_iastore mm37 dX4_readZone_76
theorem i37_77 {d a l1 t h Q} : Ev d 37 77 [some (.ref a), l1] t h Q = Ev d 37 78 [some (.ref a), l1] (.ref a :: t) h Q := en_aload_n mm37 dX4_readZone_77 rfl
theorem i37_78 {d l0 l1 t h Q} : Ev d 37 78 [l0, l1] t h Q = Ev d 37 79 [l0, l1] (.int 1 :: t) h Q := en_iconst mm37 dX4_readZone_78 (by decide)
theorem i37_79 {d l0 l1 t h Q} : Ev d 37 79 [l0, l1] t h Q = Ev d 37 82 [l0, l1] (.int 999 :: t) h Q := en_sipush mm37 dX4_readZone_79 (by decide)
theorem i37_82 {d a l0 l1 x0 x1 h Q} : Ev (d + 1) 37 82 [l0, l1] [x0, x1, .ref a] h Q = (hk h a = 5 ∧ EvM d 44 [.ref a, x1, x0] h (konN (d + 1) 37 85 [l0, l1] [] Q)) := en_virtualN mm37 dX4_readZone_82 (by decide +kernel : ml _ _ = some (2, 44)) (by decide) (rfl : mtab[44]? = some _) (by decide +kernel : npar _ = 2) rfl (by decide) rfl (of_decide_eq_true rfl) (len_cat (of_decide_eq_true rfl)) rfl rfl rfl
theorem i37_85 {d l0 l1 t x h Q} : Ev d 37 85 [l0, l1] (.int x :: t) h Q = if x = 0 then Ev d 37 88 [l0, l1] t h Q else Ev d 37 90 [l0, l1] t h Q := en_if_ne mm37 dX4_readZone_85 rfl
theorem i37_88 {d l0 l1 t h Q} : Ev d 37 88 [l0, l1] t h Q = Ev d 37 89 [l0, l1] (.int 0 :: t) h Q := en_iconst mm37 dX4_readZone_88 (by decide)
theorem i37_89 {d l0 l1 x h Q} : Ev d 37 89 [l0, l1] [.int x] h Q = (narrow .boolean (.int x) = .int x ∧ Q (.inl (some (.int x))) h) := en_ireturn mm37 dX4_readZone_89 rfl
theorem i37_90 {d a l1 t h Q} : Ev d 37 90 [some (.ref a), l1] t h Q = Ev d 37 91 [some (.ref a), l1] (.ref a :: t) h Q := en_aload_n mm37 dX4_readZone_90 rfl
theorem i37_91 {d a l0 l1 t h Q} : Ev d 37 91 [l0, l1] (.ref a :: t) h Q = (hk h a = 5 ∧ Ev d 37 94 [l0, l1] (hF h a 9 :: t) h Q) := en_getfield (cj := 4) mm37 dX4_readZone_91 (by decide +kernel)
theorem i37_94 {d a l0 l1 t h Q} : Ev d 37 94 [l0, l1] (.ref a :: t) h Q = (hk h a = 4 ∧ Ev d 37 97 [l0, l1] (hF h a 5 :: t) h Q) := en_getfield (cj := 3) mm37 dX4_readZone_94 (by decide +kernel)
theorem i37_97 {d l0 t x h Q} : Ev d 37 97 [l0, some (.int x)] t h Q = Ev d 37 98 [l0, some (.int x)] (.int x :: t) h Q := en_iload_n mm37 dX4_readZone_97 rfl
theorem i37_98 {d a l1 t h Q} : Ev d 37 98 [some (.ref a), l1] t h Q = Ev d 37 99 [some (.ref a), l1] (.ref a :: t) h Q := en_aload_n mm37 dX4_readZone_98 rfl
theorem i37_99 {d a l0 l1 t h Q} : Ev d 37 99 [l0, l1] (.ref a :: t) h Q = (hk h a = 5 ∧ Ev d 37 102 [l0, l1] (hF h a 6 :: t) h Q) := en_getfield (cj := 4) mm37 dX4_readZone_99 (by decide +kernel)
theorem i37_102 {d a j l0 l1 t x h Q} : Ev d 37 102 [l0, l1] (.int x :: .int j :: .ref a :: t) h Q = (hk h a = 10 ∧ inb j (hl h a) ∧ Ev d 37 103 [l0, l1] t (wA h a (upd (hA h a) j.toNatClampNeg x)) Q) := en_iastore mm37 dX4_readZone_102
theorem i37_103 {d a l1 t h Q} : Ev d 37 103 [some (.ref a), l1] t h Q = Ev d 37 104 [some (.ref a), l1] (.ref a :: t) h Q := en_aload_n mm37 dX4_readZone_103 rfl
theorem i37_104 {d l0 l1 t h Q} : Ev d 37 104 [l0, l1] t h Q = Ev d 37 106 [l0, l1] (.int 20 :: t) h Q := en_bipush mm37 dX4_readZone_104 (by decide)
theorem i37_106 {d l0 l1 t h Q} : Ev d 37 106 [l0, l1] t h Q = Ev d 37 109 [l0, l1] (.int 900 :: t) h Q := en_sipush mm37 dX4_readZone_106 (by decide)
theorem i37_109 {d a l0 l1 x0 x1 h Q} : Ev (d + 1) 37 109 [l0, l1] [x0, x1, .ref a] h Q = (hk h a = 5 ∧ EvM d 44 [.ref a, x1, x0] h (konN (d + 1) 37 112 [l0, l1] [] Q)) := en_virtualN mm37 dX4_readZone_109 (by decide +kernel : ml _ _ = some (2, 44)) (by decide) (rfl : mtab[44]? = some _) (by decide +kernel : npar _ = 2) rfl (by decide) rfl (of_decide_eq_true rfl) (len_cat (of_decide_eq_true rfl)) rfl rfl rfl
theorem i37_112 {d l0 l1 t x h Q} : Ev d 37 112 [l0, l1] (.int x :: t) h Q = if x = 0 then Ev d 37 115 [l0, l1] t h Q else Ev d 37 117 [l0, l1] t h Q := en_if_ne mm37 dX4_readZone_112 rfl
theorem i37_115 {d l0 l1 t h Q} : Ev d 37 115 [l0, l1] t h Q = Ev d 37 116 [l0, l1] (.int 0 :: t) h Q := en_iconst mm37 dX4_readZone_115 (by decide)
theorem i37_116 {d l0 l1 x h Q} : Ev d 37 116 [l0, l1] [.int x] h Q = (narrow .boolean (.int x) = .int x ∧ Q (.inl (some (.int x))) h) := en_ireturn mm37 dX4_readZone_116 rfl
theorem i37_117 {d a l1 t h Q} : Ev d 37 117 [some (.ref a), l1] t h Q = Ev d 37 118 [some (.ref a), l1] (.ref a :: t) h Q := en_aload_n mm37 dX4_readZone_117 rfl
theorem i37_118 {d a l0 l1 t h Q} : Ev d 37 118 [l0, l1] (.ref a :: t) h Q = (hk h a = 5 ∧ Ev d 37 121 [l0, l1] (hF h a 9 :: t) h Q) := en_getfield (cj := 4) mm37 dX4_readZone_118 (by decide +kernel)
theorem i37_121 {d a l0 l1 t h Q} : Ev d 37 121 [l0, l1] (.ref a :: t) h Q = (hk h a = 4 ∧ Ev d 37 124 [l0, l1] (hF h a 6 :: t) h Q) := en_getfield (cj := 3) mm37 dX4_readZone_121 (by decide +kernel)
theorem i37_124 {d l0 t x h Q} : Ev d 37 124 [l0, some (.int x)] t h Q = Ev d 37 125 [l0, some (.int x)] (.int x :: t) h Q := en_iload_n mm37 dX4_readZone_124 rfl
theorem i37_125 {d a l1 t h Q} : Ev d 37 125 [some (.ref a), l1] t h Q = Ev d 37 126 [some (.ref a), l1] (.ref a :: t) h Q := en_aload_n mm37 dX4_readZone_125 rfl
theorem i37_126 {d a l0 l1 t h Q} : Ev d 37 126 [l0, l1] (.ref a :: t) h Q = (hk h a = 5 ∧ Ev d 37 129 [l0, l1] (hF h a 6 :: t) h Q) := en_getfield (cj := 4) mm37 dX4_readZone_126 (by decide +kernel)
theorem i37_129 {d a j l0 l1 t x h Q} : Ev d 37 129 [l0, l1] (.int x :: .int j :: .ref a :: t) h Q = (hk h a = 10 ∧ inb j (hl h a) ∧ Ev d 37 130 [l0, l1] t (wA h a (upd (hA h a) j.toNatClampNeg x)) Q) := en_iastore mm37 dX4_readZone_129
theorem i37_130 {d a l1 t h Q} : Ev d 37 130 [some (.ref a), l1] t h Q = Ev d 37 131 [some (.ref a), l1] (.ref a :: t) h Q := en_aload_n mm37 dX4_readZone_130 rfl
theorem i37_131 {d a l1 t h Q} : Ev d 37 131 [some (.ref a), l1] t h Q = Ev d 37 132 [some (.ref a), l1] (.ref a :: t) h Q := en_aload_n mm37 dX4_readZone_131 rfl
theorem i37_132 {d a l0 l1 t h Q} : Ev d 37 132 [l0, l1] (.ref a :: t) h Q = (hk h a = 5 ∧ Ev d 37 135 [l0, l1] (hF h a 9 :: t) h Q) := en_getfield (cj := 4) mm37 dX4_readZone_132 (by decide +kernel)
theorem i37_135 {d a l0 l1 t h Q} : Ev d 37 135 [l0, l1] (.ref a :: t) h Q = (hk h a = 4 ∧ Ev d 37 138 [l0, l1] (hF h a 6 :: t) h Q) := en_getfield (cj := 3) mm37 dX4_readZone_135 (by decide +kernel)
theorem i37_138 {d l0 t x h Q} : Ev d 37 138 [l0, some (.int x)] t h Q = Ev d 37 139 [l0, some (.int x)] (.int x :: t) h Q := en_iload_n mm37 dX4_readZone_138 rfl
theorem i37_139 {d a j l0 l1 t h Q} : Ev d 37 139 [l0, l1] (.int j :: .ref a :: t) h Q = (hk h a = 10 ∧ inb j (hl h a) ∧ Ev d 37 140 [l0, l1] (.int (hA h a j.toNatClampNeg) :: t) h Q) := en_iaload mm37 dX4_readZone_139
theorem i37_140 {d l0 l1 t h Q} : Ev d 37 140 [l0, l1] t h Q = Ev d 37 143 [l0, l1] (.int 900 :: t) h Q := en_sipush mm37 dX4_readZone_140 (by decide)
theorem i37_143 {d a l0 l1 x0 x1 h Q} : Ev (d + 1) 37 143 [l0, l1] [x0, x1, .ref a] h Q = (hk h a = 5 ∧ EvM d 44 [.ref a, x1, x0] h (konN (d + 1) 37 146 [l0, l1] [] Q)) := en_virtualN mm37 dX4_readZone_143 (by decide +kernel : ml _ _ = some (2, 44)) (by decide) (rfl : mtab[44]? = some _) (by decide +kernel : npar _ = 2) rfl (by decide) rfl (of_decide_eq_true rfl) (len_cat (of_decide_eq_true rfl)) rfl rfl rfl
theorem i37_146 {d l0 l1 t x h Q} : Ev d 37 146 [l0, l1] (.int x :: t) h Q = if x = 0 then Ev d 37 149 [l0, l1] t h Q else Ev d 37 151 [l0, l1] t h Q := en_if_ne mm37 dX4_readZone_146 rfl
theorem i37_149 {d l0 l1 t h Q} : Ev d 37 149 [l0, l1] t h Q = Ev d 37 150 [l0, l1] (.int 0 :: t) h Q := en_iconst mm37 dX4_readZone_149 (by decide)
theorem i37_150 {d l0 l1 x h Q} : Ev d 37 150 [l0, l1] [.int x] h Q = (narrow .boolean (.int x) = .int x ∧ Q (.inl (some (.int x))) h) := en_ireturn mm37 dX4_readZone_150 rfl
theorem i37_151 {d a l1 t h Q} : Ev d 37 151 [some (.ref a), l1] t h Q = Ev d 37 152 [some (.ref a), l1] (.ref a :: t) h Q := en_aload_n mm37 dX4_readZone_151 rfl
theorem i37_152 {d a l0 l1 t h Q} : Ev d 37 152 [l0, l1] (.ref a :: t) h Q = (hk h a = 5 ∧ Ev d 37 155 [l0, l1] (hF h a 9 :: t) h Q) := en_getfield (cj := 4) mm37 dX4_readZone_152 (by decide +kernel)
theorem i37_155 {d a l0 l1 t h Q} : Ev d 37 155 [l0, l1] (.ref a :: t) h Q = (hk h a = 4 ∧ Ev d 37 158 [l0, l1] (hF h a 7 :: t) h Q) := en_getfield (cj := 3) mm37 dX4_readZone_155 (by decide +kernel)
theorem i37_158 {d l0 t x h Q} : Ev d 37 158 [l0, some (.int x)] t h Q = Ev d 37 159 [l0, some (.int x)] (.int x :: t) h Q := en_iload_n mm37 dX4_readZone_158 rfl
theorem i37_159 {d a l1 t h Q} : Ev d 37 159 [some (.ref a), l1] t h Q = Ev d 37 160 [some (.ref a), l1] (.ref a :: t) h Q := en_aload_n mm37 dX4_readZone_159 rfl
theorem i37_160 {d a l0 l1 t h Q} : Ev d 37 160 [l0, l1] (.ref a :: t) h Q = (hk h a = 5 ∧ Ev d 37 163 [l0, l1] (hF h a 6 :: t) h Q) := en_getfield (cj := 4) mm37 dX4_readZone_160 (by decide +kernel)
theorem i37_163 {d a j l0 l1 t x h Q} : Ev d 37 163 [l0, l1] (.int x :: .int j :: .ref a :: t) h Q = (hk h a = 10 ∧ inb j (hl h a) ∧ Ev d 37 164 [l0, l1] t (wA h a (upd (hA h a) j.toNatClampNeg x)) Q) := en_iastore mm37 dX4_readZone_163
theorem i37_164 {d a l1 t h Q} : Ev d 37 164 [some (.ref a), l1] t h Q = Ev d 37 165 [some (.ref a), l1] (.ref a :: t) h Q := en_aload_n mm37 dX4_readZone_164 rfl
theorem i37_165 {d a l0 l1 t h Q} : Ev d 37 165 [l0, l1] (.ref a :: t) h Q = (hk h a = 5 ∧ Ev d 37 168 [l0, l1] (hF h a 9 :: t) h Q) := en_getfield (cj := 4) mm37 dX4_readZone_165 (by decide +kernel)
theorem i37_168 {d a l0 l1 t h Q} : Ev d 37 168 [l0, l1] (.ref a :: t) h Q = Ev d 37 169 [l0, l1] (.ref a :: .ref a :: t) h Q := en_dup mm37 dX4_readZone_168
theorem i37_169 {d a l0 l1 t h Q} : Ev d 37 169 [l0, l1] (.ref a :: t) h Q = (hk h a = 4 ∧ Ev d 37 172 [l0, l1] (hF h a 0 :: t) h Q) := en_getfield (cj := 3) mm37 dX4_readZone_169 (by decide +kernel)
theorem i37_172 {d l0 l1 t h Q} : Ev d 37 172 [l0, l1] t h Q = Ev d 37 173 [l0, l1] (.int 1 :: t) h Q := en_iconst mm37 dX4_readZone_172 (by decide)
theorem i37_173 {d l0 l1 t x y h Q} : Ev d 37 173 [l0, l1] (.int y :: .int x :: t) h Q = Ev d 37 174 [l0, l1] (.int (x + y) :: t) h Q := en_iadd mm37 dX4_readZone_173
theorem i37_174 {d a l0 l1 t x h Q} : Ev d 37 174 [l0, l1] (.int x :: .ref a :: t) h Q = (hk h a = 4 ∧ Ev d 37 177 [l0, l1] t (wF h a 0 (.int x)) Q) := en_putfield (cj := 3) mm37 dX4_readZone_174 (by decide +kernel) rfl
theorem i37_177 {d l0 l1 t h Q} : Ev d 37 177 [l0, l1] t h Q = Ev d 37 178 [l0, l1] (.int 1 :: t) h Q := en_iconst mm37 dX4_readZone_177 (by decide)
theorem i37_178 {d l0 l1 x h Q} : Ev d 37 178 [l0, l1] [.int x] h Q = (narrow .boolean (.int x) = .int x ∧ Q (.inl (some (.int x))) h) := en_ireturn mm37 dX4_readZone_178 rfl
abbrev em38 : MI := (yX4_readBand, cX4_readBand, 3, some .boolean, 4, [])
theorem mm38 : mtab[38]? = some em38 := rfl
theorem in38 {d : Nat} {h : AH} {K : AO → AH → Prop} {v0 : Nat} : EvM d 38 [(.ref v0)] h K = Ev d 38 0 [some (.ref v0), none, none] [] h K := evm_in mm38 (of_decide_eq_true rfl) rfl
theorem i38_0 {d a l1 l2 t h Q} : Ev d 38 0 [some (.ref a), l1, l2] t h Q = Ev d 38 1 [some (.ref a), l1, l2] (.ref a :: t) h Q := en_aload_n mm38 dX4_readBand_0 rfl
theorem i38_1 {d a l0 l1 l2 h Q} : Ev (d + 1) 38 1 [l0, l1, l2] [.ref a] h Q = (hk h a = 5 ∧ EvM d 48 [.ref a] h (konN (d + 1) 38 4 [l0, l1, l2] [] Q)) := en_virtualN mm38 dX4_readBand_1 (by decide +kernel : ml _ _ = some (2, 48)) (by decide) (rfl : mtab[48]? = some _) (by decide +kernel : npar _ = 0) rfl (by decide) rfl (of_decide_eq_true rfl) (len_cat (of_decide_eq_true rfl)) rfl rfl rfl
theorem i38_4 {d a l1 l2 t h Q} : Ev d 38 4 [some (.ref a), l1, l2] t h Q = Ev d 38 5 [some (.ref a), l1, l2] (.ref a :: t) h Q := en_aload_n mm38 dX4_readBand_4 rfl
theorem i38_5 {d l0 l1 l2 t h Q} : Ev d 38 5 [l0, l1, l2] t h Q = Ev d 38 6 [l0, l1, l2] (.int 2 :: t) h Q := en_iconst mm38 dX4_readBand_5 (by decide)
theorem i38_6 {d l0 l1 l2 t h Q} : Ev d 38 6 [l0, l1, l2] t h Q = Ev d 38 8 [l0, l1, l2] (.int 19 :: t) h Q := en_bipush mm38 dX4_readBand_6 (by decide)
theorem i38_8 {d a l0 l1 l2 x0 x1 h Q} : Ev (d + 1) 38 8 [l0, l1, l2] [x0, x1, .ref a] h Q = (hk h a = 5 ∧ EvM d 44 [.ref a, x1, x0] h (konN (d + 1) 38 11 [l0, l1, l2] [] Q)) := en_virtualN mm38 dX4_readBand_8 (by decide +kernel : ml _ _ = some (2, 44)) (by decide) (rfl : mtab[44]? = some _) (by decide +kernel : npar _ = 2) rfl (by decide) rfl (of_decide_eq_true rfl) (len_cat (of_decide_eq_true rfl)) rfl rfl rfl
theorem i38_11 {d l0 l1 l2 t x h Q} : Ev d 38 11 [l0, l1, l2] (.int x :: t) h Q = if x = 0 then Ev d 38 14 [l0, l1, l2] t h Q else Ev d 38 16 [l0, l1, l2] t h Q := en_if_ne mm38 dX4_readBand_11 rfl
theorem i38_14 {d l0 l1 l2 t h Q} : Ev d 38 14 [l0, l1, l2] t h Q = Ev d 38 15 [l0, l1, l2] (.int 0 :: t) h Q := en_iconst mm38 dX4_readBand_14 (by decide)
theorem i38_15 {d l0 l1 l2 x h Q} : Ev d 38 15 [l0, l1, l2] [.int x] h Q = (narrow .boolean (.int x) = .int x ∧ Q (.inl (some (.int x))) h) := en_ireturn mm38 dX4_readBand_15 rfl
theorem i38_16 {d a l1 l2 t h Q} : Ev d 38 16 [some (.ref a), l1, l2] t h Q = Ev d 38 17 [some (.ref a), l1, l2] (.ref a :: t) h Q := en_aload_n mm38 dX4_readBand_16 rfl
theorem i38_17 {d a l0 l1 l2 t h Q} : Ev d 38 17 [l0, l1, l2] (.ref a :: t) h Q = (hk h a = 5 ∧ Ev d 38 20 [l0, l1, l2] (hF h a 6 :: t) h Q) := en_getfield (cj := 4) mm38 dX4_readBand_17 (by decide +kernel)
theorem i38_20 {d l0 l1 l2 t x h Q} : Ev d 38 20 [l0, l1, l2] (.int x :: t) h Q = Ev d 38 21 [nl l0, some (.int x), l2] t h Q := en_istore_n mm38 dX4_readBand_20 (of_decide_eq_true rfl) rfl
theorem i38_21 {d a l1 l2 t h Q} : Ev d 38 21 [some (.ref a), l1, l2] t h Q = Ev d 38 22 [some (.ref a), l1, l2] (.ref a :: t) h Q := en_aload_n mm38 dX4_readBand_21 rfl
theorem i38_22 {d l0 l1 l2 t h Q} : Ev d 38 22 [l0, l1, l2] t h Q = Ev d 38 24 [l0, l1, l2] (.int 20 :: t) h Q := en_bipush mm38 dX4_readBand_22 (by decide)
theorem i38_24 {d l0 l1 l2 t h Q} : Ev d 38 24 [l0, l1, l2] t h Q = Ev d 38 27 [l0, l1, l2] (.int 900 :: t) h Q := en_sipush mm38 dX4_readBand_24 (by decide)
theorem i38_27 {d a l0 l1 l2 x0 x1 h Q} : Ev (d + 1) 38 27 [l0, l1, l2] [x0, x1, .ref a] h Q = (hk h a = 5 ∧ EvM d 44 [.ref a, x1, x0] h (konN (d + 1) 38 30 [l0, l1, l2] [] Q)) := en_virtualN mm38 dX4_readBand_27 (by decide +kernel : ml _ _ = some (2, 44)) (by decide) (rfl : mtab[44]? = some _) (by decide +kernel : npar _ = 2) rfl (by decide) rfl (of_decide_eq_true rfl) (len_cat (of_decide_eq_true rfl)) rfl rfl rfl
theorem i38_30 {d l0 l1 l2 t x h Q} : Ev d 38 30 [l0, l1, l2] (.int x :: t) h Q = if x = 0 then Ev d 38 33 [l0, l1, l2] t h Q else Ev d 38 35 [l0, l1, l2] t h Q := en_if_ne mm38 dX4_readBand_30 rfl
theorem i38_33 {d l0 l1 l2 t h Q} : Ev d 38 33 [l0, l1, l2] t h Q = Ev d 38 34 [l0, l1, l2] (.int 0 :: t) h Q := en_iconst mm38 dX4_readBand_33 (by decide)
theorem i38_34 {d l0 l1 l2 x h Q} : Ev d 38 34 [l0, l1, l2] [.int x] h Q = (narrow .boolean (.int x) = .int x ∧ Q (.inl (some (.int x))) h) := en_ireturn mm38 dX4_readBand_34 rfl
theorem i38_35 {d a l1 l2 t h Q} : Ev d 38 35 [some (.ref a), l1, l2] t h Q = Ev d 38 36 [some (.ref a), l1, l2] (.ref a :: t) h Q := en_aload_n mm38 dX4_readBand_35 rfl
theorem i38_36 {d a l0 l1 l2 t h Q} : Ev d 38 36 [l0, l1, l2] (.ref a :: t) h Q = (hk h a = 5 ∧ Ev d 38 39 [l0, l1, l2] (hF h a 6 :: t) h Q) := en_getfield (cj := 4) mm38 dX4_readBand_36 (by decide +kernel)
theorem i38_39 {d l0 l1 l2 t x h Q} : Ev d 38 39 [l0, l1, l2] (.int x :: t) h Q = Ev d 38 40 [l0, nl l1, some (.int x)] t h Q := en_istore_n mm38 dX4_readBand_39 (of_decide_eq_true rfl) rfl
theorem i38_40 {d a l1 l2 t h Q} : Ev d 38 40 [some (.ref a), l1, l2] t h Q = Ev d 38 41 [some (.ref a), l1, l2] (.ref a :: t) h Q := en_aload_n mm38 dX4_readBand_40 rfl
theorem i38_41 {d l0 l1 t x h Q} : Ev d 38 41 [l0, l1, some (.int x)] t h Q = Ev d 38 42 [l0, l1, some (.int x)] (.int x :: t) h Q := en_iload_n mm38 dX4_readBand_41 rfl
theorem i38_42 {d l0 l1 l2 t h Q} : Ev d 38 42 [l0, l1, l2] t h Q = Ev d 38 45 [l0, l1, l2] (.int 900 :: t) h Q := en_sipush mm38 dX4_readBand_42 (by decide)
theorem i38_45 {d a l0 l1 l2 x0 x1 h Q} : Ev (d + 1) 38 45 [l0, l1, l2] [x0, x1, .ref a] h Q = (hk h a = 5 ∧ EvM d 44 [.ref a, x1, x0] h (konN (d + 1) 38 48 [l0, l1, l2] [] Q)) := en_virtualN mm38 dX4_readBand_45 (by decide +kernel : ml _ _ = some (2, 44)) (by decide) (rfl : mtab[44]? = some _) (by decide +kernel : npar _ = 2) rfl (by decide) rfl (of_decide_eq_true rfl) (len_cat (of_decide_eq_true rfl)) rfl rfl rfl
theorem i38_48 {d l0 l1 l2 t x h Q} : Ev d 38 48 [l0, l1, l2] (.int x :: t) h Q = if x = 0 then Ev d 38 51 [l0, l1, l2] t h Q else Ev d 38 53 [l0, l1, l2] t h Q := en_if_ne mm38 dX4_readBand_48 rfl
theorem i38_51 {d l0 l1 l2 t h Q} : Ev d 38 51 [l0, l1, l2] t h Q = Ev d 38 52 [l0, l1, l2] (.int 0 :: t) h Q := en_iconst mm38 dX4_readBand_51 (by decide)
theorem i38_52 {d l0 l1 l2 x h Q} : Ev d 38 52 [l0, l1, l2] [.int x] h Q = (narrow .boolean (.int x) = .int x ∧ Q (.inl (some (.int x))) h) := en_ireturn mm38 dX4_readBand_52 rfl
theorem i38_53 {d a l1 l2 t h Q} : Ev d 38 53 [some (.ref a), l1, l2] t h Q = Ev d 38 54 [some (.ref a), l1, l2] (.ref a :: t) h Q := en_aload_n mm38 dX4_readBand_53 rfl
theorem i38_54 {d a l0 l1 l2 t h Q} : Ev d 38 54 [l0, l1, l2] (.ref a :: t) h Q = (hk h a = 5 ∧ Ev d 38 57 [l0, l1, l2] (hF h a 9 :: t) h Q) := en_getfield (cj := 4) mm38 dX4_readBand_54 (by decide +kernel)
theorem i38_57 {d a l0 l1 l2 t h Q} : Ev d 38 57 [l0, l1, l2] (.ref a :: t) h Q = (hk h a = 4 ∧ Ev d 38 60 [l0, l1, l2] (hF h a 8 :: t) h Q) := en_getfield (cj := 3) mm38 dX4_readBand_57 (by decide +kernel)
theorem i38_60 {d l0 l2 t x h Q} : Ev d 38 60 [l0, some (.int x), l2] t h Q = Ev d 38 61 [l0, some (.int x), l2] (.int x :: t) h Q := en_iload_n mm38 dX4_readBand_60 rfl
theorem i38_61 {d l0 l1 t x h Q} : Ev d 38 61 [l0, l1, some (.int x)] t h Q = Ev d 38 62 [l0, l1, some (.int x)] (.int x :: t) h Q := en_iload_n mm38 dX4_readBand_61 rfl
theorem i38_62 {d a j l0 l1 l2 t x h Q} : Ev d 38 62 [l0, l1, l2] (.int x :: .int j :: .ref a :: t) h Q = (hk h a = 10 ∧ inb j (hl h a) ∧ Ev d 38 63 [l0, l1, l2] t (wA h a (upd (hA h a) j.toNatClampNeg x)) Q) := en_iastore mm38 dX4_readBand_62
theorem i38_63 {d a l1 l2 t h Q} : Ev d 38 63 [some (.ref a), l1, l2] t h Q = Ev d 38 64 [some (.ref a), l1, l2] (.ref a :: t) h Q := en_aload_n mm38 dX4_readBand_63 rfl
theorem i38_64 {d a l0 l1 l2 t h Q} : Ev d 38 64 [l0, l1, l2] (.ref a :: t) h Q = (hk h a = 5 ∧ Ev d 38 67 [l0, l1, l2] (hF h a 9 :: t) h Q) := en_getfield (cj := 4) mm38 dX4_readBand_64 (by decide +kernel)
theorem i38_67 {d a l0 l1 l2 t h Q} : Ev d 38 67 [l0, l1, l2] (.ref a :: t) h Q = (hk h a = 4 ∧ Ev d 38 70 [l0, l1, l2] (hF h a 9 :: t) h Q) := en_getfield (cj := 3) mm38 dX4_readBand_67 (by decide +kernel)
theorem i38_70 {d l0 l2 t x h Q} : Ev d 38 70 [l0, some (.int x), l2] t h Q = Ev d 38 71 [l0, some (.int x), l2] (.int x :: t) h Q := en_iload_n mm38 dX4_readBand_70 rfl
theorem i38_71 {d a l1 l2 t h Q} : Ev d 38 71 [some (.ref a), l1, l2] t h Q = Ev d 38 72 [some (.ref a), l1, l2] (.ref a :: t) h Q := en_aload_n mm38 dX4_readBand_71 rfl
theorem i38_72 {d a l0 l1 l2 t h Q} : Ev d 38 72 [l0, l1, l2] (.ref a :: t) h Q = (hk h a = 5 ∧ Ev d 38 75 [l0, l1, l2] (hF h a 6 :: t) h Q) := en_getfield (cj := 4) mm38 dX4_readBand_72 (by decide +kernel)
theorem i38_75 {d a j l0 l1 l2 t x h Q} : Ev d 38 75 [l0, l1, l2] (.int x :: .int j :: .ref a :: t) h Q = (hk h a = 10 ∧ inb j (hl h a) ∧ Ev d 38 76 [l0, l1, l2] t (wA h a (upd (hA h a) j.toNatClampNeg x)) Q) := en_iastore mm38 dX4_readBand_75
theorem i38_76 {d l0 l1 l2 t h Q} : Ev d 38 76 [l0, l1, l2] t h Q = Ev d 38 77 [l0, l1, l2] (.int 1 :: t) h Q := en_iconst mm38 dX4_readBand_76 (by decide)
theorem i38_77 {d l0 l1 l2 x h Q} : Ev d 38 77 [l0, l1, l2] [.int x] h Q = (narrow .boolean (.int x) = .int x ∧ Q (.inl (some (.int x))) h) := en_ireturn mm38 dX4_readBand_77 rfl
abbrev em39 : MI := (yX4_readHeat, cX4_readHeat, 1, some .boolean, 4, [])
theorem mm39 : mtab[39]? = some em39 := rfl
theorem in39 {d : Nat} {h : AH} {K : AO → AH → Prop} {v0 : Nat} : EvM d 39 [(.ref v0)] h K = Ev d 39 0 [some (.ref v0)] [] h K := evm_in mm39 (of_decide_eq_true rfl) rfl
theorem i39_0 {d a t h Q} : Ev d 39 0 [some (.ref a)] t h Q = Ev d 39 1 [some (.ref a)] (.ref a :: t) h Q := en_aload_n mm39 dX4_readHeat_0 rfl
theorem i39_1 {d l0 t h Q} : Ev d 39 1 [l0] t h Q = Ev d 39 2 [l0] (.int 1 :: t) h Q := en_iconst mm39 dX4_readHeat_1 (by decide)
theorem i39_2 {d l0 t h Q a} {x : Int32} (hx : x = 0 ∨ x = 1) : Ev d 39 2 [l0] (.int x :: .ref a :: t) h Q = (hk h a = 5 ∧ Ev d 39 5 [l0] t (wF h a 10 (.int x)) Q) := en_putfield (cj := 4) mm39 dX4_readHeat_2 (by decide +kernel) (by rcases hx with rfl | rfl <;> rfl)
theorem i39_5 {d a t h Q} : Ev d 39 5 [some (.ref a)] t h Q = Ev d 39 6 [some (.ref a)] (.ref a :: t) h Q := en_aload_n mm39 dX4_readHeat_5 rfl
theorem i39_6 {d l0 t h Q} : Ev d 39 6 [l0] t h Q = Ev d 39 7 [l0] (.int 0 :: t) h Q := en_iconst mm39 dX4_readHeat_6 (by decide)
theorem i39_7 {d a l0 t x h Q} : Ev d 39 7 [l0] (.int x :: .ref a :: t) h Q = (hk h a = 5 ∧ Ev d 39 10 [l0] t (wF h a 12 (.int x)) Q) := en_putfield (cj := 4) mm39 dX4_readHeat_7 (by decide +kernel) rfl
theorem i39_10 {d a t h Q} : Ev d 39 10 [some (.ref a)] t h Q = Ev d 39 11 [some (.ref a)] (.ref a :: t) h Q := en_aload_n mm39 dX4_readHeat_10 rfl
theorem i39_11 {d a l0 h Q} : Ev (d + 1) 39 11 [l0] [.ref a] h Q = (hk h a = 5 ∧ EvM d 48 [.ref a] h (konN (d + 1) 39 14 [l0] [] Q)) := en_virtualN mm39 dX4_readHeat_11 (by decide +kernel : ml _ _ = some (2, 48)) (by decide) (rfl : mtab[48]? = some _) (by decide +kernel : npar _ = 0) rfl (by decide) rfl (of_decide_eq_true rfl) (len_cat (of_decide_eq_true rfl)) rfl rfl rfl
theorem i39_14 {d a t h Q} : Ev d 39 14 [some (.ref a)] t h Q = Ev d 39 15 [some (.ref a)] (.ref a :: t) h Q := en_aload_n mm39 dX4_readHeat_14 rfl
theorem i39_15 {d l0 t h Q} : Ev d 39 15 [l0] t h Q = Ev d 39 16 [l0] (.int 0 :: t) h Q := en_iconst mm39 dX4_readHeat_15 (by decide)
theorem i39_16 {d a l0 x0 h Q} : Ev (d + 1) 39 16 [l0] [x0, .ref a] h Q = (hk h a = 5 ∧ EvM d 40 [.ref a, x0] h (konN (d + 1) 39 19 [l0] [] Q)) := en_virtualN mm39 dX4_readHeat_16 (by decide +kernel : ml _ _ = some (2, 40)) (by decide) (rfl : mtab[40]? = some _) (by decide +kernel : npar _ = 1) rfl (by decide) rfl (of_decide_eq_true rfl) (len_cat (of_decide_eq_true rfl)) rfl rfl rfl
theorem i39_19 {d l0 t x h Q} : Ev d 39 19 [l0] (.int x :: t) h Q = if x = 0 then Ev d 39 22 [l0] t h Q else Ev d 39 24 [l0] t h Q := en_if_ne mm39 dX4_readHeat_19 rfl
theorem i39_22 {d l0 t h Q} : Ev d 39 22 [l0] t h Q = Ev d 39 23 [l0] (.int 0 :: t) h Q := en_iconst mm39 dX4_readHeat_22 (by decide)
theorem i39_23 {d l0 x h Q} : Ev d 39 23 [l0] [.int x] h Q = (narrow .boolean (.int x) = .int x ∧ Q (.inl (some (.int x))) h) := en_ireturn mm39 dX4_readHeat_23 rfl
theorem i39_24 {d a t h Q} : Ev d 39 24 [some (.ref a)] t h Q = Ev d 39 25 [some (.ref a)] (.ref a :: t) h Q := en_aload_n mm39 dX4_readHeat_24 rfl
theorem i39_25 {d a l0 t h Q} : Ev d 39 25 [l0] (.ref a :: t) h Q = (hk h a = 5 ∧ Ev d 39 28 [l0] (hF h a 9 :: t) h Q) := en_getfield (cj := 4) mm39 dX4_readHeat_25 (by decide +kernel)
theorem i39_28 {d l0 t h Q} : Ev d 39 28 [l0] t h Q = Ev d 39 31 [l0] (.ref (hN h) :: t) (alO h 1 2 (dfl 0)) Q := en_new mm39 dX4_readHeat_28 (by decide +kernel : look _ clsT = some (810, 0)) rfl
theorem i39_31 {d a l0 t h Q} : Ev d 39 31 [l0] (.ref a :: t) h Q = Ev d 39 32 [l0] (.ref a :: .ref a :: t) h Q := en_dup mm39 dX4_readHeat_31
theorem i39_32 {d a t h Q} : Ev d 39 32 [some (.ref a)] t h Q = Ev d 39 33 [some (.ref a)] (.ref a :: t) h Q := en_aload_n mm39 dX4_readHeat_32 rfl
theorem i39_33 {d a l0 t h Q} : Ev d 39 33 [l0] (.ref a :: t) h Q = (hk h a = 5 ∧ Ev d 39 36 [l0] (hF h a 11 :: t) h Q) := en_getfield (cj := 4) mm39 dX4_readHeat_33 (by decide +kernel)
theorem i39_36 {d a t h Q} : Ev d 39 36 [some (.ref a)] t h Q = Ev d 39 37 [some (.ref a)] (.ref a :: t) h Q := en_aload_n mm39 dX4_readHeat_36 rfl
theorem i39_37 {d a l0 t h Q} : Ev d 39 37 [l0] (.ref a :: t) h Q = (hk h a = 5 ∧ Ev d 39 40 [l0] (hF h a 12 :: t) h Q) := en_getfield (cj := 4) mm39 dX4_readHeat_37 (by decide +kernel)
theorem i39_40 {d a l0 x0 x1 x3 x4 h Q} : Ev (d + 1) 39 40 [l0] [x0, x1, .ref a, x3, x4] h Q = (hk h a = 1 ∧ EvM d 0 [.ref a, x1, x0] h (konN (d + 1) 39 43 [l0] [x3, x4] Q)) := en_specialN mm39 dX4_readHeat_40 (by decide +kernel : ml _ _ = some (5, 0)) (by decide) (rfl : mtab[0]? = some _) (by decide +kernel : npar _ = 2) rfl (by decide) rfl (of_decide_eq_true rfl) (len_cat (of_decide_eq_true rfl)) rfl rfl rfl
theorem i39_43 {d a b l0 t h Q} : Ev d 39 43 [l0] (.ref b :: .ref a :: t) h Q = (hk h a = 4 ∧ Ev d 39 46 [l0] t (wF h a 10 (.ref b)) Q) := en_putfield (cj := 3) mm39 dX4_readHeat_43 (by decide +kernel) rfl
theorem i39_46 {d l0 t h Q} : Ev d 39 46 [l0] t h Q = Ev d 39 47 [l0] (.int 1 :: t) h Q := en_iconst mm39 dX4_readHeat_46 (by decide)
theorem i39_47 {d l0 x h Q} : Ev d 39 47 [l0] [.int x] h Q = (narrow .boolean (.int x) = .int x ∧ Q (.inl (some (.int x))) h) := en_ireturn mm39 dX4_readHeat_47 rfl
abbrev em40 : MI := (yX4_readSum, cX4_readSum, 4, some .boolean, 4, [])
theorem mm40 : mtab[40]? = some em40 := rfl
theorem in40 {d : Nat} {h : AH} {K : AO → AH → Prop} {v0 : Nat} {v1 : Int32} : EvM d 40 [(.ref v0), (.int v1)] h K = Ev d 40 0 [some (.ref v0), some (.int v1), none, none] [] h K := evm_in mm40 (of_decide_eq_true rfl) rfl
theorem i40_0 {d a l1 l2 l3 t h Q} : Ev d 40 0 [some (.ref a), l1, l2, l3] t h Q = Ev d 40 1 [some (.ref a), l1, l2, l3] (.ref a :: t) h Q := en_aload_n mm40 dX4_readSum_0 rfl
theorem i40_1 {d l0 l2 l3 t x h Q} : Ev d 40 1 [l0, some (.int x), l2, l3] t h Q = Ev d 40 2 [l0, some (.int x), l2, l3] (.int x :: t) h Q := en_iload_n mm40 dX4_readSum_1 rfl
theorem i40_2 {d a l0 l1 l2 l3 x0 h Q} : Ev (d + 1) 40 2 [l0, l1, l2, l3] [x0, .ref a] h Q = (hk h a = 5 ∧ EvM d 41 [.ref a, x0] h (konN (d + 1) 40 5 [l0, l1, l2, l3] [] Q)) := en_virtualN mm40 dX4_readSum_2 (by decide +kernel : ml _ _ = some (2, 41)) (by decide) (rfl : mtab[41]? = some _) (by decide +kernel : npar _ = 1) rfl (by decide) rfl (of_decide_eq_true rfl) (len_cat (of_decide_eq_true rfl)) rfl rfl rfl
theorem i40_5 {d l0 l1 l2 l3 t x h Q} : Ev d 40 5 [l0, l1, l2, l3] (.int x :: t) h Q = if x = 0 then Ev d 40 8 [l0, l1, l2, l3] t h Q else Ev d 40 10 [l0, l1, l2, l3] t h Q := en_if_ne mm40 dX4_readSum_5 rfl
theorem i40_8 {d l0 l1 l2 l3 t h Q} : Ev d 40 8 [l0, l1, l2, l3] t h Q = Ev d 40 9 [l0, l1, l2, l3] (.int 0 :: t) h Q := en_iconst mm40 dX4_readSum_8 (by decide)
theorem i40_9 {d l0 l1 l2 l3 x h Q} : Ev d 40 9 [l0, l1, l2, l3] [.int x] h Q = (narrow .boolean (.int x) = .int x ∧ Q (.inl (some (.int x))) h) := en_ireturn mm40 dX4_readSum_9 rfl
theorem i40_10 {d l0 l1 l2 l3 t h Q} : Ev d 40 10 [l0, l1, l2, l3] t h Q = Ev d 40 11 [l0, l1, l2, l3] (.int 0 :: t) h Q := en_iconst mm40 dX4_readSum_10 (by decide)
theorem i40_11 {d l0 l1 l2 l3 t x h Q} : Ev d 40 11 [l0, l1, l2, l3] (.int x :: t) h Q = Ev d 40 12 [l0, nl l1, some (.int x), l3] t h Q := en_istore_n mm40 dX4_readSum_11 (of_decide_eq_true rfl) rfl
theorem i40_12 {d l0 l1 l3 t x h Q} : Ev d 40 12 [l0, l1, some (.int x), l3] t h Q = Ev d 40 13 [l0, l1, some (.int x), l3] (.int x :: t) h Q := en_iload_n mm40 dX4_readSum_12 rfl
theorem i40_13 {d a l1 l2 l3 t h Q} : Ev d 40 13 [some (.ref a), l1, l2, l3] t h Q = Ev d 40 14 [some (.ref a), l1, l2, l3] (.ref a :: t) h Q := en_aload_n mm40 dX4_readSum_13 rfl
theorem i40_14 {d a l0 l1 l2 l3 t h Q} : Ev d 40 14 [l0, l1, l2, l3] (.ref a :: t) h Q = (hk h a = 5 ∧ Ev d 40 17 [l0, l1, l2, l3] (hF h a 2 :: t) h Q) := en_getfield (cj := 4) mm40 dX4_readSum_14 (by decide +kernel)
theorem i40_17 {d l0 l1 l2 l3 t x y h Q} : Ev d 40 17 [l0, l1, l2, l3] (.int y :: .int x :: t) h Q = if y ≤ x then Ev d 40 79 [l0, l1, l2, l3] t h Q else Ev d 40 20 [l0, l1, l2, l3] t h Q := en_ic_ge mm40 dX4_readSum_17 rfl
theorem i40_20 {d a l1 l2 l3 t h Q} : Ev d 40 20 [some (.ref a), l1, l2, l3] t h Q = Ev d 40 21 [some (.ref a), l1, l2, l3] (.ref a :: t) h Q := en_aload_n mm40 dX4_readSum_20 rfl
theorem i40_21 {d l0 l1 l2 l3 t h Q} : Ev d 40 21 [l0, l1, l2, l3] t h Q = Ev d 40 23 [l0, l1, l2, l3] (.int 43 :: t) h Q := en_bipush mm40 dX4_readSum_21 (by decide)
theorem i40_23 {d a l0 l1 l2 l3 x0 h Q} : Ev (d + 1) 40 23 [l0, l1, l2, l3] [x0, .ref a] h Q = (hk h a = 5 ∧ EvM d 46 [.ref a, x0] h (konN (d + 1) 40 26 [l0, l1, l2, l3] [] Q)) := en_virtualN mm40 dX4_readSum_23 (by decide +kernel : ml _ _ = some (2, 46)) (by decide) (rfl : mtab[46]? = some _) (by decide +kernel : npar _ = 1) rfl (by decide) rfl (of_decide_eq_true rfl) (len_cat (of_decide_eq_true rfl)) rfl rfl rfl
theorem i40_26 {d l0 l1 l2 l3 t x h Q} : Ev d 40 26 [l0, l1, l2, l3] (.int x :: t) h Q = if x = 0 then Ev d 40 29 [l0, l1, l2, l3] t h Q else Ev d 40 38 [l0, l1, l2, l3] t h Q := en_if_ne mm40 dX4_readSum_26 rfl
theorem i40_29 {d a l1 l2 l3 t h Q} : Ev d 40 29 [some (.ref a), l1, l2, l3] t h Q = Ev d 40 30 [some (.ref a), l1, l2, l3] (.ref a :: t) h Q := en_aload_n mm40 dX4_readSum_29 rfl
theorem i40_30 {d l0 l1 l2 l3 t h Q} : Ev d 40 30 [l0, l1, l2, l3] t h Q = Ev d 40 32 [l0, l1, l2, l3] (.int 45 :: t) h Q := en_bipush mm40 dX4_readSum_30 (by decide)
theorem i40_32 {d a l0 l1 l2 l3 x0 h Q} : Ev (d + 1) 40 32 [l0, l1, l2, l3] [x0, .ref a] h Q = (hk h a = 5 ∧ EvM d 46 [.ref a, x0] h (konN (d + 1) 40 35 [l0, l1, l2, l3] [] Q)) := en_virtualN mm40 dX4_readSum_32 (by decide +kernel : ml _ _ = some (2, 46)) (by decide) (rfl : mtab[46]? = some _) (by decide +kernel : npar _ = 1) rfl (by decide) rfl (of_decide_eq_true rfl) (len_cat (of_decide_eq_true rfl)) rfl rfl rfl
theorem i40_35 {d l0 l1 l2 l3 t x h Q} : Ev d 40 35 [l0, l1, l2, l3] (.int x :: t) h Q = if x = 0 then Ev d 40 79 [l0, l1, l2, l3] t h Q else Ev d 40 38 [l0, l1, l2, l3] t h Q := en_if_eq mm40 dX4_readSum_35 rfl
theorem i40_38 {d a l1 l2 l3 t h Q} : Ev d 40 38 [some (.ref a), l1, l2, l3] t h Q = Ev d 40 39 [some (.ref a), l1, l2, l3] (.ref a :: t) h Q := en_aload_n mm40 dX4_readSum_38 rfl
theorem i40_39 {d l0 l1 l2 l3 t h Q} : Ev d 40 39 [l0, l1, l2, l3] t h Q = Ev d 40 41 [l0, l1, l2, l3] (.int 43 :: t) h Q := en_bipush mm40 dX4_readSum_39 (by decide)
theorem i40_41 {d a l0 l1 l2 l3 x0 h Q} : Ev (d + 1) 40 41 [l0, l1, l2, l3] [x0, .ref a] h Q = (hk h a = 5 ∧ EvM d 46 [.ref a, x0] h (konN (d + 1) 40 44 [l0, l1, l2, l3] [] Q)) := en_virtualN mm40 dX4_readSum_41 (by decide +kernel : ml _ _ = some (2, 46)) (by decide) (rfl : mtab[46]? = some _) (by decide +kernel : npar _ = 1) rfl (by decide) rfl (of_decide_eq_true rfl) (len_cat (of_decide_eq_true rfl)) rfl rfl rfl
theorem i40_44 {d l0 l1 l2 l3 t x h Q} : Ev d 40 44 [l0, l1, l2, l3] (.int x :: t) h Q = if x = 0 then Ev d 40 51 [l0, l1, l2, l3] t h Q else Ev d 40 47 [l0, l1, l2, l3] t h Q := en_if_eq mm40 dX4_readSum_44 rfl
theorem i40_47 {d l0 l1 l2 l3 t h Q} : Ev d 40 47 [l0, l1, l2, l3] t h Q = Ev d 40 48 [l0, l1, l2, l3] (.int (-1) :: t) h Q := en_iconst mm40 dX4_readSum_47 (by decide)
theorem i40_48 {d l0 l1 l2 l3 t h Q} : Ev d 40 48 [l0, l1, l2, l3] t h Q = Ev d 40 53 [l0, l1, l2, l3] t h Q := en_goto mm40 dX4_readSum_48 rfl
theorem i40_51 {d l0 l1 l2 l3 t h Q} : Ev d 40 51 [l0, l1, l2, l3] t h Q = Ev d 40 53 [l0, l1, l2, l3] (.int (-2) :: t) h Q := en_bipush mm40 dX4_readSum_51 (by decide)
theorem i40_53 {d l0 l1 l2 l3 t x h Q} : Ev d 40 53 [l0, l1, l2, l3] (.int x :: t) h Q = Ev d 40 54 [l0, l1, nl l2, some (.int x)] t h Q := en_istore_n mm40 dX4_readSum_53 (of_decide_eq_true rfl) rfl
theorem i40_54 {d a l1 l2 l3 t h Q} : Ev d 40 54 [some (.ref a), l1, l2, l3] t h Q = Ev d 40 55 [some (.ref a), l1, l2, l3] (.ref a :: t) h Q := en_aload_n mm40 dX4_readSum_54 rfl
theorem i40_55 {d a l0 l1 l2 l3 h Q} : Ev (d + 1) 40 55 [l0, l1, l2, l3] [.ref a] h Q = (hk h a = 5 ∧ EvM d 48 [.ref a] h (konN (d + 1) 40 58 [l0, l1, l2, l3] [] Q)) := en_virtualN mm40 dX4_readSum_55 (by decide +kernel : ml _ _ = some (2, 48)) (by decide) (rfl : mtab[48]? = some _) (by decide +kernel : npar _ = 0) rfl (by decide) rfl (of_decide_eq_true rfl) (len_cat (of_decide_eq_true rfl)) rfl rfl rfl
theorem i40_58 {d a l1 l2 l3 t h Q} : Ev d 40 58 [some (.ref a), l1, l2, l3] t h Q = Ev d 40 59 [some (.ref a), l1, l2, l3] (.ref a :: t) h Q := en_aload_n mm40 dX4_readSum_58 rfl
theorem i40_59 {d l0 l2 l3 t x h Q} : Ev d 40 59 [l0, some (.int x), l2, l3] t h Q = Ev d 40 60 [l0, some (.int x), l2, l3] (.int x :: t) h Q := en_iload_n mm40 dX4_readSum_59 rfl
theorem i40_60 {d a l0 l1 l2 l3 x0 h Q} : Ev (d + 1) 40 60 [l0, l1, l2, l3] [x0, .ref a] h Q = (hk h a = 5 ∧ EvM d 41 [.ref a, x0] h (konN (d + 1) 40 63 [l0, l1, l2, l3] [] Q)) := en_virtualN mm40 dX4_readSum_60 (by decide +kernel : ml _ _ = some (2, 41)) (by decide) (rfl : mtab[41]? = some _) (by decide +kernel : npar _ = 1) rfl (by decide) rfl (of_decide_eq_true rfl) (len_cat (of_decide_eq_true rfl)) rfl rfl rfl
theorem i40_63 {d l0 l1 l2 l3 t x h Q} : Ev d 40 63 [l0, l1, l2, l3] (.int x :: t) h Q = if x = 0 then Ev d 40 66 [l0, l1, l2, l3] t h Q else Ev d 40 68 [l0, l1, l2, l3] t h Q := en_if_ne mm40 dX4_readSum_63 rfl
theorem i40_66 {d l0 l1 l2 l3 t h Q} : Ev d 40 66 [l0, l1, l2, l3] t h Q = Ev d 40 67 [l0, l1, l2, l3] (.int 0 :: t) h Q := en_iconst mm40 dX4_readSum_66 (by decide)
theorem i40_67 {d l0 l1 l2 l3 x h Q} : Ev d 40 67 [l0, l1, l2, l3] [.int x] h Q = (narrow .boolean (.int x) = .int x ∧ Q (.inl (some (.int x))) h) := en_ireturn mm40 dX4_readSum_67 rfl
theorem i40_68 {d a l1 l2 l3 t h Q} : Ev d 40 68 [some (.ref a), l1, l2, l3] t h Q = Ev d 40 69 [some (.ref a), l1, l2, l3] (.ref a :: t) h Q := en_aload_n mm40 dX4_readSum_68 rfl
theorem i40_69 {d l0 l1 l2 t x h Q} : Ev d 40 69 [l0, l1, l2, some (.int x)] t h Q = Ev d 40 70 [l0, l1, l2, some (.int x)] (.int x :: t) h Q := en_iload_n mm40 dX4_readSum_69 rfl
theorem i40_70 {d a l0 l1 l2 l3 x0 h Q} : Ev (d + 1) 40 70 [l0, l1, l2, l3] [x0, .ref a] h Q = (hk h a = 5 ∧ EvM d 43 [.ref a, x0] h (konN (d + 1) 40 73 [l0, l1, l2, l3] [] Q)) := en_virtualN mm40 dX4_readSum_70 (by decide +kernel : ml _ _ = some (2, 43)) (by decide) (rfl : mtab[43]? = some _) (by decide +kernel : npar _ = 1) rfl (by decide) rfl (of_decide_eq_true rfl) (len_cat (of_decide_eq_true rfl)) rfl rfl rfl
theorem i40_73 {d l0 l1 l3 t x h Q} : Ev d 40 73 [l0, l1, some (.int x), l3] t h Q = Ev d 40 76 [l0, nl l1, some (.int (x + 1)), l3] t h Q := en_iinc mm40 dX4_readSum_73 rfl (by decide) rfl
theorem i40_76 {d l0 l1 l2 l3 t h Q} : Ev d 40 76 [l0, l1, l2, l3] t h Q = Ev d 40 12 [l0, l1, l2, l3] t h Q := en_goto mm40 dX4_readSum_76 rfl
theorem i40_79 {d l0 l1 l2 l3 t h Q} : Ev d 40 79 [l0, l1, l2, l3] t h Q = Ev d 40 80 [l0, l1, l2, l3] (.int 1 :: t) h Q := en_iconst mm40 dX4_readSum_79 (by decide)
theorem i40_80 {d l0 l1 l2 l3 x h Q} : Ev d 40 80 [l0, l1, l2, l3] [.int x] h Q = (narrow .boolean (.int x) = .int x ∧ Q (.inl (some (.int x))) h) := en_ireturn mm40 dX4_readSum_80 rfl
abbrev em41 : MI := (yX4_readTerm, cX4_readTerm, 4, some .boolean, 4, [])
theorem mm41 : mtab[41]? = some em41 := rfl
theorem in41 {d : Nat} {h : AH} {K : AO → AH → Prop} {v0 : Nat} {v1 : Int32} : EvM d 41 [(.ref v0), (.int v1)] h K = Ev d 41 0 [some (.ref v0), some (.int v1), none, none] [] h K := evm_in mm41 (of_decide_eq_true rfl) rfl
theorem i41_0 {d a l1 l2 l3 t h Q} : Ev d 41 0 [some (.ref a), l1, l2, l3] t h Q = Ev d 41 1 [some (.ref a), l1, l2, l3] (.ref a :: t) h Q := en_aload_n mm41 dX4_readTerm_0 rfl
theorem i41_1 {d l0 l2 l3 t x h Q} : Ev d 41 1 [l0, some (.int x), l2, l3] t h Q = Ev d 41 2 [l0, some (.int x), l2, l3] (.int x :: t) h Q := en_iload_n mm41 dX4_readTerm_1 rfl
theorem i41_2 {d a l0 l1 l2 l3 x0 h Q} : Ev (d + 1) 41 2 [l0, l1, l2, l3] [x0, .ref a] h Q = (hk h a = 5 ∧ EvM d 42 [.ref a, x0] h (konN (d + 1) 41 5 [l0, l1, l2, l3] [] Q)) := en_virtualN mm41 dX4_readTerm_2 (by decide +kernel : ml _ _ = some (2, 42)) (by decide) (rfl : mtab[42]? = some _) (by decide +kernel : npar _ = 1) rfl (by decide) rfl (of_decide_eq_true rfl) (len_cat (of_decide_eq_true rfl)) rfl rfl rfl
theorem i41_5 {d l0 l1 l2 l3 t x h Q} : Ev d 41 5 [l0, l1, l2, l3] (.int x :: t) h Q = if x = 0 then Ev d 41 8 [l0, l1, l2, l3] t h Q else Ev d 41 10 [l0, l1, l2, l3] t h Q := en_if_ne mm41 dX4_readTerm_5 rfl
theorem i41_8 {d l0 l1 l2 l3 t h Q} : Ev d 41 8 [l0, l1, l2, l3] t h Q = Ev d 41 9 [l0, l1, l2, l3] (.int 0 :: t) h Q := en_iconst mm41 dX4_readTerm_8 (by decide)
theorem i41_9 {d l0 l1 l2 l3 x h Q} : Ev d 41 9 [l0, l1, l2, l3] [.int x] h Q = (narrow .boolean (.int x) = .int x ∧ Q (.inl (some (.int x))) h) := en_ireturn mm41 dX4_readTerm_9 rfl
theorem i41_10 {d l0 l1 l2 l3 t h Q} : Ev d 41 10 [l0, l1, l2, l3] t h Q = Ev d 41 11 [l0, l1, l2, l3] (.int 0 :: t) h Q := en_iconst mm41 dX4_readTerm_10 (by decide)
theorem i41_11 {d l0 l1 l2 l3 t x h Q} : Ev d 41 11 [l0, l1, l2, l3] (.int x :: t) h Q = Ev d 41 12 [l0, nl l1, some (.int x), l3] t h Q := en_istore_n mm41 dX4_readTerm_11 (of_decide_eq_true rfl) rfl
theorem i41_12 {d l0 l1 l3 t x h Q} : Ev d 41 12 [l0, l1, some (.int x), l3] t h Q = Ev d 41 13 [l0, l1, some (.int x), l3] (.int x :: t) h Q := en_iload_n mm41 dX4_readTerm_12 rfl
theorem i41_13 {d a l1 l2 l3 t h Q} : Ev d 41 13 [some (.ref a), l1, l2, l3] t h Q = Ev d 41 14 [some (.ref a), l1, l2, l3] (.ref a :: t) h Q := en_aload_n mm41 dX4_readTerm_13 rfl
theorem i41_14 {d a l0 l1 l2 l3 t h Q} : Ev d 41 14 [l0, l1, l2, l3] (.ref a :: t) h Q = (hk h a = 5 ∧ Ev d 41 17 [l0, l1, l2, l3] (hF h a 2 :: t) h Q) := en_getfield (cj := 4) mm41 dX4_readTerm_14 (by decide +kernel)
theorem i41_17 {d l0 l1 l2 l3 t x y h Q} : Ev d 41 17 [l0, l1, l2, l3] (.int y :: .int x :: t) h Q = if y ≤ x then Ev d 41 80 [l0, l1, l2, l3] t h Q else Ev d 41 20 [l0, l1, l2, l3] t h Q := en_ic_ge mm41 dX4_readTerm_17 rfl
theorem i41_20 {d a l1 l2 l3 t h Q} : Ev d 41 20 [some (.ref a), l1, l2, l3] t h Q = Ev d 41 21 [some (.ref a), l1, l2, l3] (.ref a :: t) h Q := en_aload_n mm41 dX4_readTerm_20 rfl
theorem i41_21 {d l0 l1 l2 l3 t h Q} : Ev d 41 21 [l0, l1, l2, l3] t h Q = Ev d 41 23 [l0, l1, l2, l3] (.int 42 :: t) h Q := en_bipush mm41 dX4_readTerm_21 (by decide)
theorem i41_23 {d a l0 l1 l2 l3 x0 h Q} : Ev (d + 1) 41 23 [l0, l1, l2, l3] [x0, .ref a] h Q = (hk h a = 5 ∧ EvM d 46 [.ref a, x0] h (konN (d + 1) 41 26 [l0, l1, l2, l3] [] Q)) := en_virtualN mm41 dX4_readTerm_23 (by decide +kernel : ml _ _ = some (2, 46)) (by decide) (rfl : mtab[46]? = some _) (by decide +kernel : npar _ = 1) rfl (by decide) rfl (of_decide_eq_true rfl) (len_cat (of_decide_eq_true rfl)) rfl rfl rfl
theorem i41_26 {d l0 l1 l2 l3 t x h Q} : Ev d 41 26 [l0, l1, l2, l3] (.int x :: t) h Q = if x = 0 then Ev d 41 29 [l0, l1, l2, l3] t h Q else Ev d 41 38 [l0, l1, l2, l3] t h Q := en_if_ne mm41 dX4_readTerm_26 rfl
theorem i41_29 {d a l1 l2 l3 t h Q} : Ev d 41 29 [some (.ref a), l1, l2, l3] t h Q = Ev d 41 30 [some (.ref a), l1, l2, l3] (.ref a :: t) h Q := en_aload_n mm41 dX4_readTerm_29 rfl
theorem i41_30 {d l0 l1 l2 l3 t h Q} : Ev d 41 30 [l0, l1, l2, l3] t h Q = Ev d 41 32 [l0, l1, l2, l3] (.int 47 :: t) h Q := en_bipush mm41 dX4_readTerm_30 (by decide)
theorem i41_32 {d a l0 l1 l2 l3 x0 h Q} : Ev (d + 1) 41 32 [l0, l1, l2, l3] [x0, .ref a] h Q = (hk h a = 5 ∧ EvM d 46 [.ref a, x0] h (konN (d + 1) 41 35 [l0, l1, l2, l3] [] Q)) := en_virtualN mm41 dX4_readTerm_32 (by decide +kernel : ml _ _ = some (2, 46)) (by decide) (rfl : mtab[46]? = some _) (by decide +kernel : npar _ = 1) rfl (by decide) rfl (of_decide_eq_true rfl) (len_cat (of_decide_eq_true rfl)) rfl rfl rfl
theorem i41_35 {d l0 l1 l2 l3 t x h Q} : Ev d 41 35 [l0, l1, l2, l3] (.int x :: t) h Q = if x = 0 then Ev d 41 80 [l0, l1, l2, l3] t h Q else Ev d 41 38 [l0, l1, l2, l3] t h Q := en_if_eq mm41 dX4_readTerm_35 rfl
theorem i41_38 {d a l1 l2 l3 t h Q} : Ev d 41 38 [some (.ref a), l1, l2, l3] t h Q = Ev d 41 39 [some (.ref a), l1, l2, l3] (.ref a :: t) h Q := en_aload_n mm41 dX4_readTerm_38 rfl
theorem i41_39 {d l0 l1 l2 l3 t h Q} : Ev d 41 39 [l0, l1, l2, l3] t h Q = Ev d 41 41 [l0, l1, l2, l3] (.int 42 :: t) h Q := en_bipush mm41 dX4_readTerm_39 (by decide)
theorem i41_41 {d a l0 l1 l2 l3 x0 h Q} : Ev (d + 1) 41 41 [l0, l1, l2, l3] [x0, .ref a] h Q = (hk h a = 5 ∧ EvM d 46 [.ref a, x0] h (konN (d + 1) 41 44 [l0, l1, l2, l3] [] Q)) := en_virtualN mm41 dX4_readTerm_41 (by decide +kernel : ml _ _ = some (2, 46)) (by decide) (rfl : mtab[46]? = some _) (by decide +kernel : npar _ = 1) rfl (by decide) rfl (of_decide_eq_true rfl) (len_cat (of_decide_eq_true rfl)) rfl rfl rfl
theorem i41_44 {d l0 l1 l2 l3 t x h Q} : Ev d 41 44 [l0, l1, l2, l3] (.int x :: t) h Q = if x = 0 then Ev d 41 52 [l0, l1, l2, l3] t h Q else Ev d 41 47 [l0, l1, l2, l3] t h Q := en_if_eq mm41 dX4_readTerm_44 rfl
theorem i41_47 {d l0 l1 l2 l3 t h Q} : Ev d 41 47 [l0, l1, l2, l3] t h Q = Ev d 41 49 [l0, l1, l2, l3] (.int (-3) :: t) h Q := en_bipush mm41 dX4_readTerm_47 (by decide)
theorem i41_49 {d l0 l1 l2 l3 t h Q} : Ev d 41 49 [l0, l1, l2, l3] t h Q = Ev d 41 54 [l0, l1, l2, l3] t h Q := en_goto mm41 dX4_readTerm_49 rfl
theorem i41_52 {d l0 l1 l2 l3 t h Q} : Ev d 41 52 [l0, l1, l2, l3] t h Q = Ev d 41 54 [l0, l1, l2, l3] (.int (-4) :: t) h Q := en_bipush mm41 dX4_readTerm_52 (by decide)
theorem i41_54 {d l0 l1 l2 l3 t x h Q} : Ev d 41 54 [l0, l1, l2, l3] (.int x :: t) h Q = Ev d 41 55 [l0, l1, nl l2, some (.int x)] t h Q := en_istore_n mm41 dX4_readTerm_54 (of_decide_eq_true rfl) rfl
theorem i41_55 {d a l1 l2 l3 t h Q} : Ev d 41 55 [some (.ref a), l1, l2, l3] t h Q = Ev d 41 56 [some (.ref a), l1, l2, l3] (.ref a :: t) h Q := en_aload_n mm41 dX4_readTerm_55 rfl
theorem i41_56 {d a l0 l1 l2 l3 h Q} : Ev (d + 1) 41 56 [l0, l1, l2, l3] [.ref a] h Q = (hk h a = 5 ∧ EvM d 48 [.ref a] h (konN (d + 1) 41 59 [l0, l1, l2, l3] [] Q)) := en_virtualN mm41 dX4_readTerm_56 (by decide +kernel : ml _ _ = some (2, 48)) (by decide) (rfl : mtab[48]? = some _) (by decide +kernel : npar _ = 0) rfl (by decide) rfl (of_decide_eq_true rfl) (len_cat (of_decide_eq_true rfl)) rfl rfl rfl
theorem i41_59 {d a l1 l2 l3 t h Q} : Ev d 41 59 [some (.ref a), l1, l2, l3] t h Q = Ev d 41 60 [some (.ref a), l1, l2, l3] (.ref a :: t) h Q := en_aload_n mm41 dX4_readTerm_59 rfl
theorem i41_60 {d l0 l2 l3 t x h Q} : Ev d 41 60 [l0, some (.int x), l2, l3] t h Q = Ev d 41 61 [l0, some (.int x), l2, l3] (.int x :: t) h Q := en_iload_n mm41 dX4_readTerm_60 rfl
theorem i41_61 {d a l0 l1 l2 l3 x0 h Q} : Ev (d + 1) 41 61 [l0, l1, l2, l3] [x0, .ref a] h Q = (hk h a = 5 ∧ EvM d 42 [.ref a, x0] h (konN (d + 1) 41 64 [l0, l1, l2, l3] [] Q)) := en_virtualN mm41 dX4_readTerm_61 (by decide +kernel : ml _ _ = some (2, 42)) (by decide) (rfl : mtab[42]? = some _) (by decide +kernel : npar _ = 1) rfl (by decide) rfl (of_decide_eq_true rfl) (len_cat (of_decide_eq_true rfl)) rfl rfl rfl
theorem i41_64 {d l0 l1 l2 l3 t x h Q} : Ev d 41 64 [l0, l1, l2, l3] (.int x :: t) h Q = if x = 0 then Ev d 41 67 [l0, l1, l2, l3] t h Q else Ev d 41 69 [l0, l1, l2, l3] t h Q := en_if_ne mm41 dX4_readTerm_64 rfl
theorem i41_67 {d l0 l1 l2 l3 t h Q} : Ev d 41 67 [l0, l1, l2, l3] t h Q = Ev d 41 68 [l0, l1, l2, l3] (.int 0 :: t) h Q := en_iconst mm41 dX4_readTerm_67 (by decide)
theorem i41_68 {d l0 l1 l2 l3 x h Q} : Ev d 41 68 [l0, l1, l2, l3] [.int x] h Q = (narrow .boolean (.int x) = .int x ∧ Q (.inl (some (.int x))) h) := en_ireturn mm41 dX4_readTerm_68 rfl
theorem i41_69 {d a l1 l2 l3 t h Q} : Ev d 41 69 [some (.ref a), l1, l2, l3] t h Q = Ev d 41 70 [some (.ref a), l1, l2, l3] (.ref a :: t) h Q := en_aload_n mm41 dX4_readTerm_69 rfl
theorem i41_70 {d l0 l1 l2 t x h Q} : Ev d 41 70 [l0, l1, l2, some (.int x)] t h Q = Ev d 41 71 [l0, l1, l2, some (.int x)] (.int x :: t) h Q := en_iload_n mm41 dX4_readTerm_70 rfl
theorem i41_71 {d a l0 l1 l2 l3 x0 h Q} : Ev (d + 1) 41 71 [l0, l1, l2, l3] [x0, .ref a] h Q = (hk h a = 5 ∧ EvM d 43 [.ref a, x0] h (konN (d + 1) 41 74 [l0, l1, l2, l3] [] Q)) := en_virtualN mm41 dX4_readTerm_71 (by decide +kernel : ml _ _ = some (2, 43)) (by decide) (rfl : mtab[43]? = some _) (by decide +kernel : npar _ = 1) rfl (by decide) rfl (of_decide_eq_true rfl) (len_cat (of_decide_eq_true rfl)) rfl rfl rfl
theorem i41_74 {d l0 l1 l3 t x h Q} : Ev d 41 74 [l0, l1, some (.int x), l3] t h Q = Ev d 41 77 [l0, nl l1, some (.int (x + 1)), l3] t h Q := en_iinc mm41 dX4_readTerm_74 rfl (by decide) rfl
theorem i41_77 {d l0 l1 l2 l3 t h Q} : Ev d 41 77 [l0, l1, l2, l3] t h Q = Ev d 41 12 [l0, l1, l2, l3] t h Q := en_goto mm41 dX4_readTerm_77 rfl
theorem i41_80 {d l0 l1 l2 l3 t h Q} : Ev d 41 80 [l0, l1, l2, l3] t h Q = Ev d 41 81 [l0, l1, l2, l3] (.int 1 :: t) h Q := en_iconst mm41 dX4_readTerm_80 (by decide)
theorem i41_81 {d l0 l1 l2 l3 x h Q} : Ev d 41 81 [l0, l1, l2, l3] [.int x] h Q = (narrow .boolean (.int x) = .int x ∧ Q (.inl (some (.int x))) h) := en_ireturn mm41 dX4_readTerm_81 rfl
