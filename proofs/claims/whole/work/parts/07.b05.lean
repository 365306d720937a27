/-! AN EQUATION FOR EACH INSTRUCTION -/
abbrev em128 : MI := (yX6_tick, cX6_tick, 3, none, 6, [])
theorem mm128 : mtab[128]? = some em128 := rfl
theorem in128 {d : Nat} {h : AH} {K : AO → AH → Prop} {v0 : Nat} : EvM d 128 [(.ref v0)] h K = Ev d 128 0 [some (.ref v0), none, none] [] h K := evm_in mm128 (of_decide_eq_true rfl) rfl
theorem i128_0 {d a l1 l2 t h Q} : Ev d 128 0 [some (.ref a), l1, l2] t h Q = Ev d 128 1 [some (.ref a), l1, l2] (.ref a :: t) h Q := en_aload_n mm128 dX6_tick_0 rfl
theorem i128_1 {d a l0 l1 l2 t h Q} : Ev d 128 1 [l0, l1, l2] (.ref a :: t) h Q = (hk h a = 7 ∧ Ev d 128 4 [l0, l1, l2] (hF h a 8 :: t) h Q) := en_getfield mm128 dX6_tick_1 (by decide +kernel)
theorem i128_4 {d l0 l1 l2 t h Q} : Ev d 128 4 [l0, l1, l2] t h Q = Ev d 128 5 [l0, l1, l2] (.int 0 :: t) h Q := en_iconst mm128 dX6_tick_4 (by decide)
theorem i128_5 {d a j l0 l1 l2 t h Q} : Ev d 128 5 [l0, l1, l2] (.int j :: .ref a :: t) h Q = (hk h a = 10 ∧ inb j (hl h a) ∧ Ev d 128 6 [l0, l1, l2] (.int (hA h a j.toNatClampNeg) :: t) h Q) := en_iaload mm128 dX6_tick_5
theorem i128_6 {d l0 l1 l2 t x h Q} : Ev d 128 6 [l0, l1, l2] (.int x :: t) h Q = Ev d 128 7 [nl l0, some (.int x), l2] t h Q := en_istore_n mm128 dX6_tick_6 (of_decide_eq_true rfl) rfl
theorem i128_7 {d l0 l1 l2 t h Q} : Ev d 128 7 [l0, l1, l2] t h Q = Ev d 128 8 [l0, l1, l2] (.int 0 :: t) h Q := en_iconst mm128 dX6_tick_7 (by decide)
theorem i128_8 {d l0 l1 l2 t x h Q} : Ev d 128 8 [l0, l1, l2] (.int x :: t) h Q = Ev d 128 9 [l0, nl l1, some (.int x)] t h Q := en_istore_n mm128 dX6_tick_8 (of_decide_eq_true rfl) rfl
theorem i128_9 {d l0 l1 t x h Q} : Ev d 128 9 [l0, l1, some (.int x)] t h Q = Ev d 128 10 [l0, l1, some (.int x)] (.int x :: t) h Q := en_iload_n mm128 dX6_tick_9 rfl
theorem i128_10 {d l0 l2 t x h Q} : Ev d 128 10 [l0, some (.int x), l2] t h Q = Ev d 128 11 [l0, some (.int x), l2] (.int x :: t) h Q := en_iload_n mm128 dX6_tick_10 rfl
theorem i128_11 {d l0 l1 l2 t x y h Q} : Ev d 128 11 [l0, l1, l2] (.int y :: .int x :: t) h Q = if y ≤ x then Ev d 128 89 [l0, l1, l2] t h Q else Ev d 128 14 [l0, l1, l2] t h Q := en_ic_ge mm128 dX6_tick_11 rfl
theorem i128_14 {d a l1 l2 t h Q} : Ev d 128 14 [some (.ref a), l1, l2] t h Q = Ev d 128 15 [some (.ref a), l1, l2] (.ref a :: t) h Q := en_aload_n mm128 dX6_tick_14 rfl
theorem i128_15 {d a l0 l1 l2 t h Q} : Ev d 128 15 [l0, l1, l2] (.ref a :: t) h Q = (hk h a = 7 ∧ Ev d 128 18 [l0, l1, l2] (hF h a 8 :: t) h Q) := en_getfield mm128 dX6_tick_15 (by decide +kernel)
theorem i128_18 {d l0 l1 t x h Q} : Ev d 128 18 [l0, l1, some (.int x)] t h Q = Ev d 128 19 [l0, l1, some (.int x)] (.int x :: t) h Q := en_iload_n mm128 dX6_tick_18 rfl
theorem i128_19 {d l0 l1 l2 x0 x1 h Q} : Ev (d + 1) 128 19 [l0, l1, l2] [x0, x1] h Q = EvM d 94 [x0] h (konN (d + 1) 128 22 [l0, l1, l2] [x1] Q) := en_staticN mm128 dX6_tick_19 (by decide +kernel : ml _ _ = some (0, 94)) (by decide) (rfl : mtab[94]? = some _) (by decide +kernel : npar _ = 1) (of_decide_eq_true rfl) (len_cat (of_decide_eq_true rfl)) rfl rfl rfl
theorem i128_22 {d l0 l1 l2 t h Q} : Ev d 128 22 [l0, l1, l2] t h Q = Ev d 128 23 [l0, l1, l2] (.int 5 :: t) h Q := en_iconst mm128 dX6_tick_22 (by decide)
theorem i128_23 {d l0 l1 l2 t x y h Q} : Ev d 128 23 [l0, l1, l2] (.int y :: .int x :: t) h Q = Ev d 128 24 [l0, l1, l2] (.int (x + y) :: t) h Q := en_iadd mm128 dX6_tick_23
theorem i128_24 {d a j l0 l1 l2 t h Q} : Ev d 128 24 [l0, l1, l2] (.int j :: .ref a :: t) h Q = (hk h a = 10 ∧ inb j (hl h a) ∧ Ev d 128 25 [l0, l1, l2] (.int (hA h a j.toNatClampNeg) :: t) h Q) := en_iaload mm128 dX6_tick_24
theorem i128_25 {d a l1 l2 t h Q} : Ev d 128 25 [some (.ref a), l1, l2] t h Q = Ev d 128 26 [some (.ref a), l1, l2] (.ref a :: t) h Q := en_aload_n mm128 dX6_tick_25 rfl
theorem i128_26 {d a l0 l1 l2 t h Q} : Ev d 128 26 [l0, l1, l2] (.ref a :: t) h Q = (hk h a = 7 ∧ Ev d 128 29 [l0, l1, l2] (hF h a 8 :: t) h Q) := en_getfield mm128 dX6_tick_26 (by decide +kernel)
theorem i128_29 {d l0 l1 t x h Q} : Ev d 128 29 [l0, l1, some (.int x)] t h Q = Ev d 128 30 [l0, l1, some (.int x)] (.int x :: t) h Q := en_iload_n mm128 dX6_tick_29 rfl
theorem i128_30 {d l0 l1 l2 x0 x1 x2 h Q} : Ev (d + 1) 128 30 [l0, l1, l2] [x0, x1, x2] h Q = EvM d 94 [x0] h (konN (d + 1) 128 33 [l0, l1, l2] [x1, x2] Q) := en_staticN mm128 dX6_tick_30 (by decide +kernel : ml _ _ = some (0, 94)) (by decide) (rfl : mtab[94]? = some _) (by decide +kernel : npar _ = 1) (of_decide_eq_true rfl) (len_cat (of_decide_eq_true rfl)) rfl rfl rfl
theorem i128_33 {d a j l0 l1 l2 t h Q} : Ev d 128 33 [l0, l1, l2] (.int j :: .ref a :: t) h Q = (hk h a = 10 ∧ inb j (hl h a) ∧ Ev d 128 34 [l0, l1, l2] (.int (hA h a j.toNatClampNeg) :: t) h Q) := en_iaload mm128 dX6_tick_33
theorem i128_34 {d l0 l1 l2 t x y h Q} : Ev d 128 34 [l0, l1, l2] (.int y :: .int x :: t) h Q = if y ≤ x then Ev d 128 83 [l0, l1, l2] t h Q else Ev d 128 37 [l0, l1, l2] t h Q := en_ic_ge mm128 dX6_tick_34 rfl
theorem i128_37 {d a l1 l2 t h Q} : Ev d 128 37 [some (.ref a), l1, l2] t h Q = Ev d 128 38 [some (.ref a), l1, l2] (.ref a :: t) h Q := en_aload_n mm128 dX6_tick_37 rfl
theorem i128_38 {d a l0 l1 l2 t h Q} : Ev d 128 38 [l0, l1, l2] (.ref a :: t) h Q = (hk h a = 7 ∧ Ev d 128 41 [l0, l1, l2] (hF h a 8 :: t) h Q) := en_getfield mm128 dX6_tick_38 (by decide +kernel)
theorem i128_41 {d l0 l1 t x h Q} : Ev d 128 41 [l0, l1, some (.int x)] t h Q = Ev d 128 42 [l0, l1, some (.int x)] (.int x :: t) h Q := en_iload_n mm128 dX6_tick_41 rfl
theorem i128_42 {d l0 l1 l2 x0 x1 h Q} : Ev (d + 1) 128 42 [l0, l1, l2] [x0, x1] h Q = EvM d 94 [x0] h (konN (d + 1) 128 45 [l0, l1, l2] [x1] Q) := en_staticN mm128 dX6_tick_42 (by decide +kernel : ml _ _ = some (0, 94)) (by decide) (rfl : mtab[94]? = some _) (by decide +kernel : npar _ = 1) (of_decide_eq_true rfl) (len_cat (of_decide_eq_true rfl)) rfl rfl rfl
theorem i128_45 {d l0 l1 l2 t h Q} : Ev d 128 45 [l0, l1, l2] t h Q = Ev d 128 46 [l0, l1, l2] (.int 5 :: t) h Q := en_iconst mm128 dX6_tick_45 (by decide)
theorem i128_46 {d l0 l1 l2 t x y h Q} : Ev d 128 46 [l0, l1, l2] (.int y :: .int x :: t) h Q = Ev d 128 47 [l0, l1, l2] (.int (x + y) :: t) h Q := en_iadd mm128 dX6_tick_46
theorem i128_47 {d a l1 l2 t h Q} : Ev d 128 47 [some (.ref a), l1, l2] t h Q = Ev d 128 48 [some (.ref a), l1, l2] (.ref a :: t) h Q := en_aload_n mm128 dX6_tick_47 rfl
theorem i128_48 {d a l0 l1 l2 t h Q} : Ev d 128 48 [l0, l1, l2] (.ref a :: t) h Q = (hk h a = 7 ∧ Ev d 128 51 [l0, l1, l2] (hF h a 8 :: t) h Q) := en_getfield mm128 dX6_tick_48 (by decide +kernel)
theorem i128_51 {d l0 l1 t x h Q} : Ev d 128 51 [l0, l1, some (.int x)] t h Q = Ev d 128 52 [l0, l1, some (.int x)] (.int x :: t) h Q := en_iload_n mm128 dX6_tick_51 rfl
theorem i128_52 {d l0 l1 l2 x0 x1 x2 x3 h Q} : Ev (d + 1) 128 52 [l0, l1, l2] [x0, x1, x2, x3] h Q = EvM d 94 [x0] h (konN (d + 1) 128 55 [l0, l1, l2] [x1, x2, x3] Q) := en_staticN mm128 dX6_tick_52 (by decide +kernel : ml _ _ = some (0, 94)) (by decide) (rfl : mtab[94]? = some _) (by decide +kernel : npar _ = 1) (of_decide_eq_true rfl) (len_cat (of_decide_eq_true rfl)) rfl rfl rfl
theorem i128_55 {d a j l0 l1 l2 t h Q} : Ev d 128 55 [l0, l1, l2] (.int j :: .ref a :: t) h Q = (hk h a = 10 ∧ inb j (hl h a) ∧ Ev d 128 56 [l0, l1, l2] (.int (hA h a j.toNatClampNeg) :: t) h Q) := en_iaload mm128 dX6_tick_55
theorem i128_56 {d a l1 l2 t h Q} : Ev d 128 56 [some (.ref a), l1, l2] t h Q = Ev d 128 57 [some (.ref a), l1, l2] (.ref a :: t) h Q := en_aload_n mm128 dX6_tick_56 rfl
theorem i128_57 {d a l0 l1 l2 t h Q} : Ev d 128 57 [l0, l1, l2] (.ref a :: t) h Q = (hk h a = 7 ∧ Ev d 128 60 [l0, l1, l2] (hF h a 8 :: t) h Q) := en_getfield mm128 dX6_tick_57 (by decide +kernel)
theorem i128_60 {d l0 l1 t x h Q} : Ev d 128 60 [l0, l1, some (.int x)] t h Q = Ev d 128 61 [l0, l1, some (.int x)] (.int x :: t) h Q := en_iload_n mm128 dX6_tick_60 rfl
theorem i128_61 {d l0 l1 l2 x0 x1 x2 x3 x4 h Q} : Ev (d + 1) 128 61 [l0, l1, l2] [x0, x1, x2, x3, x4] h Q = EvM d 94 [x0] h (konN (d + 1) 128 64 [l0, l1, l2] [x1, x2, x3, x4] Q) := en_staticN mm128 dX6_tick_61 (by decide +kernel : ml _ _ = some (0, 94)) (by decide) (rfl : mtab[94]? = some _) (by decide +kernel : npar _ = 1) (of_decide_eq_true rfl) (len_cat (of_decide_eq_true rfl)) rfl rfl rfl
theorem i128_64 {d l0 l1 l2 t h Q} : Ev d 128 64 [l0, l1, l2] t h Q = Ev d 128 65 [l0, l1, l2] (.int 5 :: t) h Q := en_iconst mm128 dX6_tick_64 (by decide)
theorem i128_65 {d l0 l1 l2 t x y h Q} : Ev d 128 65 [l0, l1, l2] (.int y :: .int x :: t) h Q = Ev d 128 66 [l0, l1, l2] (.int (x + y) :: t) h Q := en_iadd mm128 dX6_tick_65
theorem i128_66 {d a j l0 l1 l2 t h Q} : Ev d 128 66 [l0, l1, l2] (.int j :: .ref a :: t) h Q = (hk h a = 10 ∧ inb j (hl h a) ∧ Ev d 128 67 [l0, l1, l2] (.int (hA h a j.toNatClampNeg) :: t) h Q) := en_iaload mm128 dX6_tick_66
theorem i128_67 {d a l1 l2 t h Q} : Ev d 128 67 [some (.ref a), l1, l2] t h Q = Ev d 128 68 [some (.ref a), l1, l2] (.ref a :: t) h Q := en_aload_n mm128 dX6_tick_67 rfl
theorem i128_68 {d a l0 l1 l2 t h Q} : Ev d 128 68 [l0, l1, l2] (.ref a :: t) h Q = (hk h a = 7 ∧ Ev d 128 71 [l0, l1, l2] (hF h a 8 :: t) h Q) := en_getfield mm128 dX6_tick_68 (by decide +kernel)
theorem i128_71 {d l0 l1 t x h Q} : Ev d 128 71 [l0, l1, some (.int x)] t h Q = Ev d 128 72 [l0, l1, some (.int x)] (.int x :: t) h Q := en_iload_n mm128 dX6_tick_71 rfl
theorem i128_72 {d l0 l1 l2 x0 x1 x2 x3 x4 x5 h Q} : Ev (d + 1) 128 72 [l0, l1, l2] [x0, .ref x1, .int x2, .int x3, .int x4, .ref x5] h Q = EvM d 94 [x0] h (konN (d + 1) 128 75 [l0, l1, l2] [.ref x1, .int x2, .int x3, .int x4, .ref x5] Q) := en_staticN mm128 dX6_tick_72 (by decide +kernel : ml _ _ = some (0, 94)) (by decide) (rfl : mtab[94]? = some _) (by decide +kernel : npar _ = 1) (of_decide_eq_true rfl) (of_decide_eq_true rfl) rfl rfl rfl
theorem i128_75 {d l0 l1 l2 t h Q} : Ev d 128 75 [l0, l1, l2] t h Q = Ev d 128 76 [l0, l1, l2] (.int 1 :: t) h Q := en_iconst mm128 dX6_tick_75 (by decide)
theorem i128_76 {d l0 l1 l2 t x y h Q} : Ev d 128 76 [l0, l1, l2] (.int y :: .int x :: t) h Q = Ev d 128 77 [l0, l1, l2] (.int (x + y) :: t) h Q := en_iadd mm128 dX6_tick_76
theorem i128_77 {d a j l0 l1 l2 t h Q} : Ev d 128 77 [l0, l1, l2] (.int j :: .ref a :: t) h Q = (hk h a = 10 ∧ inb j (hl h a) ∧ Ev d 128 78 [l0, l1, l2] (.int (hA h a j.toNatClampNeg) :: t) h Q) := en_iaload mm128 dX6_tick_77
theorem i128_78 {d l0 l1 l2 t x y h Q} : Ev d 128 78 [l0, l1, l2] (.int y :: .int x :: t) h Q = Ev d 128 79 [l0, l1, l2] (.int (x + y) :: t) h Q := en_iadd mm128 dX6_tick_78
theorem i128_79 {d l0 l1 l2 x0 x1 x2 x3 h Q} : Ev (d + 1) 128 79 [l0, l1, l2] [x0, x1, x2, x3] h Q = EvM d 91 [x1, x0] h (konN (d + 1) 128 82 [l0, l1, l2] [x2, x3] Q) := en_staticN mm128 dX6_tick_79 (by decide +kernel : ml _ _ = some (0, 91)) (by decide) (rfl : mtab[91]? = some _) (by decide +kernel : npar _ = 2) (of_decide_eq_true rfl) (len_cat (of_decide_eq_true rfl)) rfl rfl rfl
theorem i128_82 {d a j l0 l1 l2 t x h Q} : Ev d 128 82 [l0, l1, l2] (.int x :: .int j :: .ref a :: t) h Q = (hk h a = 10 ∧ inb j (hl h a) ∧ Ev d 128 83 [l0, l1, l2] t (wA h a (upd (hA h a) j.toNatClampNeg x)) Q) := en_iastore mm128 dX6_tick_82
theorem i128_83 {d l0 l1 t x h Q} : Ev d 128 83 [l0, l1, some (.int x)] t h Q = Ev d 128 86 [l0, nl l1, some (.int (x + 1))] t h Q := en_iinc mm128 dX6_tick_83 rfl (by decide) rfl
theorem i128_86 {d l0 l1 l2 t h Q} : Ev d 128 86 [l0, l1, l2] t h Q = Ev d 128 9 [l0, l1, l2] t h Q := en_goto mm128 dX6_tick_86 rfl
theorem i128_89 {d l0 l1 l2 t h Q} : Ev d 128 89 [l0, l1, l2] t h Q = Ev d 128 90 [l0, l1, l2] (.int 0 :: t) h Q := en_iconst mm128 dX6_tick_89 (by decide)
theorem i128_90 {d l0 l1 l2 t x h Q} : Ev d 128 90 [l0, l1, l2] (.int x :: t) h Q = Ev d 128 91 [l0, nl l1, some (.int x)] t h Q := en_istore_n mm128 dX6_tick_90 (of_decide_eq_true rfl) rfl
theorem i128_91 {d l0 l1 t x h Q} : Ev d 128 91 [l0, l1, some (.int x)] t h Q = Ev d 128 92 [l0, l1, some (.int x)] (.int x :: t) h Q := en_iload_n mm128 dX6_tick_91 rfl
theorem i128_92 {d l0 l2 t x h Q} : Ev d 128 92 [l0, some (.int x), l2] t h Q = Ev d 128 93 [l0, some (.int x), l2] (.int x :: t) h Q := en_iload_n mm128 dX6_tick_92 rfl
theorem i128_93 {d l0 l1 l2 t x y h Q} : Ev d 128 93 [l0, l1, l2] (.int y :: .int x :: t) h Q = if y ≤ x then Ev d 128 107 [l0, l1, l2] t h Q else Ev d 128 96 [l0, l1, l2] t h Q := en_ic_ge mm128 dX6_tick_93 rfl
theorem i128_96 {d a l1 l2 t h Q} : Ev d 128 96 [some (.ref a), l1, l2] t h Q = Ev d 128 97 [some (.ref a), l1, l2] (.ref a :: t) h Q := en_aload_n mm128 dX6_tick_96 rfl
theorem i128_97 {d l0 l1 t x h Q} : Ev d 128 97 [l0, l1, some (.int x)] t h Q = Ev d 128 98 [l0, l1, some (.int x)] (.int x :: t) h Q := en_iload_n mm128 dX6_tick_97 rfl
theorem i128_98 {d a l0 l1 l2 x0 h Q} : Ev (d + 1) 128 98 [l0, l1, l2] [x0, .ref a] h Q = (hk h a = 7 ∧ EvM d 125 [.ref a, x0] h (konN (d + 1) 128 101 [l0, l1, l2] [] Q)) := en_virtualN mm128 dX6_tick_98 (by decide +kernel : ml _ _ = some (2, 125)) (by decide) (rfl : mtab[125]? = some _) (by decide +kernel : npar _ = 1) rfl (by decide) rfl (of_decide_eq_true rfl) (len_cat (of_decide_eq_true rfl)) rfl rfl rfl
theorem i128_101 {d l0 l1 t x h Q} : Ev d 128 101 [l0, l1, some (.int x)] t h Q = Ev d 128 104 [l0, nl l1, some (.int (x + 1))] t h Q := en_iinc mm128 dX6_tick_101 rfl (by decide) rfl
theorem i128_104 {d l0 l1 l2 t h Q} : Ev d 128 104 [l0, l1, l2] t h Q = Ev d 128 91 [l0, l1, l2] t h Q := en_goto mm128 dX6_tick_104 rfl
theorem i128_107 {d a l1 l2 t h Q} : Ev d 128 107 [some (.ref a), l1, l2] t h Q = Ev d 128 108 [some (.ref a), l1, l2] (.ref a :: t) h Q := en_aload_n mm128 dX6_tick_107 rfl
theorem i128_108 {d a l0 l1 l2 t h Q} : Ev d 128 108 [l0, l1, l2] (.ref a :: t) h Q = (hk h a = 7 ∧ Ev d 128 111 [l0, l1, l2] (hF h a 8 :: t) h Q) := en_getfield mm128 dX6_tick_108 (by decide +kernel)
theorem i128_111 {d l0 l1 l2 t h Q} : Ev d 128 111 [l0, l1, l2] t h Q = Ev d 128 112 [l0, l1, l2] (.int 5 :: t) h Q := en_iconst mm128 dX6_tick_111 (by decide)
theorem i128_112 {d a j l0 l1 l2 t h Q} : Ev d 128 112 [l0, l1, l2] (.int j :: .ref a :: t) h Q = (hk h a = 10 ∧ inb j (hl h a) ∧ Ev d 128 113 [l0, l1, l2] (.int (hA h a j.toNatClampNeg) :: t) h Q) := en_iaload mm128 dX6_tick_112
theorem i128_113 {d l0 l1 l2 t x h Q} : Ev d 128 113 [l0, l1, l2] (.int x :: t) h Q = if x ≤ 0 then Ev d 128 141 [l0, l1, l2] t h Q else Ev d 128 116 [l0, l1, l2] t h Q := en_if_le mm128 dX6_tick_113 rfl
theorem i128_116 {d a l1 l2 t h Q} : Ev d 128 116 [some (.ref a), l1, l2] t h Q = Ev d 128 117 [some (.ref a), l1, l2] (.ref a :: t) h Q := en_aload_n mm128 dX6_tick_116 rfl
theorem i128_117 {d a l0 l1 l2 t h Q} : Ev d 128 117 [l0, l1, l2] (.ref a :: t) h Q = (hk h a = 7 ∧ Ev d 128 120 [l0, l1, l2] (hF h a 8 :: t) h Q) := en_getfield mm128 dX6_tick_117 (by decide +kernel)
theorem i128_120 {d l0 l1 l2 t h Q} : Ev d 128 120 [l0, l1, l2] t h Q = Ev d 128 122 [l0, l1, l2] (.int 6 :: t) h Q := en_bipush mm128 dX6_tick_120 (by decide)
theorem i128_122 {d a l0 l1 l2 t x h Q} : Ev d 128 122 [l0, l1, l2] (.int x :: .ref a :: t) h Q = Ev d 128 123 [l0, l1, l2] (.int x :: .ref a :: .int x :: .ref a :: t) h Q := en_dup2 mm128 dX6_tick_122
theorem i128_123 {d a j l0 l1 l2 t h Q} : Ev d 128 123 [l0, l1, l2] (.int j :: .ref a :: t) h Q = (hk h a = 10 ∧ inb j (hl h a) ∧ Ev d 128 124 [l0, l1, l2] (.int (hA h a j.toNatClampNeg) :: t) h Q) := en_iaload mm128 dX6_tick_123
theorem i128_124 {d l0 l1 l2 t h Q} : Ev d 128 124 [l0, l1, l2] t h Q = Ev d 128 125 [l0, l1, l2] (.int 1 :: t) h Q := en_iconst mm128 dX6_tick_124 (by decide)
theorem i128_125 {d l0 l1 l2 t x y h Q} : Ev d 128 125 [l0, l1, l2] (.int y :: .int x :: t) h Q = Ev d 128 126 [l0, l1, l2] (.int (x - y) :: t) h Q := en_isub mm128 dX6_tick_125
theorem i128_126 {d a j l0 l1 l2 t x h Q} : Ev d 128 126 [l0, l1, l2] (.int x :: .int j :: .ref a :: t) h Q = (hk h a = 10 ∧ inb j (hl h a) ∧ Ev d 128 127 [l0, l1, l2] t (wA h a (upd (hA h a) j.toNatClampNeg x)) Q) := en_iastore mm128 dX6_tick_126
theorem i128_127 {d a l1 l2 t h Q} : Ev d 128 127 [some (.ref a), l1, l2] t h Q = Ev d 128 128 [some (.ref a), l1, l2] (.ref a :: t) h Q := en_aload_n mm128 dX6_tick_127 rfl
theorem i128_128 {d a l0 l1 l2 t h Q} : Ev d 128 128 [l0, l1, l2] (.ref a :: t) h Q = (hk h a = 7 ∧ Ev d 128 131 [l0, l1, l2] (hF h a 8 :: t) h Q) := en_getfield mm128 dX6_tick_128 (by decide +kernel)
theorem i128_131 {d l0 l1 l2 t h Q} : Ev d 128 131 [l0, l1, l2] t h Q = Ev d 128 133 [l0, l1, l2] (.int 6 :: t) h Q := en_bipush mm128 dX6_tick_131 (by decide)
theorem i128_133 {d a j l0 l1 l2 t h Q} : Ev d 128 133 [l0, l1, l2] (.int j :: .ref a :: t) h Q = (hk h a = 10 ∧ inb j (hl h a) ∧ Ev d 128 134 [l0, l1, l2] (.int (hA h a j.toNatClampNeg) :: t) h Q) := en_iaload mm128 dX6_tick_133
theorem i128_134 {d l0 l1 l2 t x h Q} : Ev d 128 134 [l0, l1, l2] (.int x :: t) h Q = if x = 0 then Ev d 128 137 [l0, l1, l2] t h Q else Ev d 128 141 [l0, l1, l2] t h Q := en_if_ne mm128 dX6_tick_134 rfl
theorem i128_137 {d a l1 l2 t h Q} : Ev d 128 137 [some (.ref a), l1, l2] t h Q = Ev d 128 138 [some (.ref a), l1, l2] (.ref a :: t) h Q := en_aload_n mm128 dX6_tick_137 rfl
theorem i128_138 {d a l0 l1 l2 h Q} : Ev (d + 1) 128 138 [l0, l1, l2] [.ref a] h Q = (hk h a = 7 ∧ EvM d 126 [.ref a] h (konN (d + 1) 128 141 [l0, l1, l2] [] Q)) := en_virtualN mm128 dX6_tick_138 (by decide +kernel : ml _ _ = some (2, 126)) (by decide) (rfl : mtab[126]? = some _) (by decide +kernel : npar _ = 0) rfl (by decide) rfl (of_decide_eq_true rfl) (len_cat (of_decide_eq_true rfl)) rfl rfl rfl
theorem i128_141 {d l0 l2 t x h Q} : Ev d 128 141 [l0, some (.int x), l2] t h Q = Ev d 128 142 [l0, some (.int x), l2] (.int x :: t) h Q := en_iload_n mm128 dX6_tick_141 rfl
theorem i128_142 {d l0 l1 l2 t h Q} : Ev d 128 142 [l0, l1, l2] t h Q = Ev d 128 143 [l0, l1, l2] (.int 1 :: t) h Q := en_iconst mm128 dX6_tick_142 (by decide)
theorem i128_143 {d l0 l1 l2 t x y h Q} : Ev d 128 143 [l0, l1, l2] (.int y :: .int x :: t) h Q = Ev d 128 144 [l0, l1, l2] (.int (x - y) :: t) h Q := en_isub mm128 dX6_tick_143
theorem i128_144 {d l0 l1 l2 t x h Q} : Ev d 128 144 [l0, l1, l2] (.int x :: t) h Q = Ev d 128 145 [l0, nl l1, some (.int x)] t h Q := en_istore_n mm128 dX6_tick_144 (of_decide_eq_true rfl) rfl
theorem i128_145 {d l0 l1 t x h Q} : Ev d 128 145 [l0, l1, some (.int x)] t h Q = Ev d 128 146 [l0, l1, some (.int x)] (.int x :: t) h Q := en_iload_n mm128 dX6_tick_145 rfl
theorem i128_146 {d l0 l1 l2 t x h Q} : Ev d 128 146 [l0, l1, l2] (.int x :: t) h Q = if x < 0 then Ev d 128 160 [l0, l1, l2] t h Q else Ev d 128 149 [l0, l1, l2] t h Q := en_if_lt mm128 dX6_tick_146 rfl
theorem i128_149 {d a l1 l2 t h Q} : Ev d 128 149 [some (.ref a), l1, l2] t h Q = Ev d 128 150 [some (.ref a), l1, l2] (.ref a :: t) h Q := en_aload_n mm128 dX6_tick_149 rfl
theorem i128_150 {d l0 l1 t x h Q} : Ev d 128 150 [l0, l1, some (.int x)] t h Q = Ev d 128 151 [l0, l1, some (.int x)] (.int x :: t) h Q := en_iload_n mm128 dX6_tick_150 rfl
theorem i128_151 {d a l0 l1 l2 x0 h Q} : Ev (d + 1) 128 151 [l0, l1, l2] [x0, .ref a] h Q = (hk h a = 7 ∧ EvM d 127 [.ref a, x0] h (konN (d + 1) 128 154 [l0, l1, l2] [] Q)) := en_virtualN mm128 dX6_tick_151 (by decide +kernel : ml _ _ = some (2, 127)) (by decide) (rfl : mtab[127]? = some _) (by decide +kernel : npar _ = 1) rfl (by decide) rfl (of_decide_eq_true rfl) (len_cat (of_decide_eq_true rfl)) rfl rfl rfl
theorem i128_154 {d l0 l1 t x h Q} : Ev d 128 154 [l0, l1, some (.int x)] t h Q = Ev d 128 157 [l0, nl l1, some (.int (x + (-1)))] t h Q := en_iinc mm128 dX6_tick_154 rfl (by decide) rfl
theorem i128_157 {d l0 l1 l2 t h Q} : Ev d 128 157 [l0, l1, l2] t h Q = Ev d 128 145 [l0, l1, l2] t h Q := en_goto mm128 dX6_tick_157 rfl
theorem i128_160 {d l0 l1 l2 t h Q} : Ev d 128 160 [l0, l1, l2] t h Q = Ev d 128 161 [l0, l1, l2] (.int 0 :: t) h Q := en_iconst mm128 dX6_tick_160 (by decide)
theorem i128_161 {d l0 l1 l2 t x h Q} : Ev d 128 161 [l0, l1, l2] (.int x :: t) h Q = Ev d 128 162 [l0, nl l1, some (.int x)] t h Q := en_istore_n mm128 dX6_tick_161 (of_decide_eq_true rfl) rfl
theorem i128_162 {d l0 l1 t x h Q} : Ev d 128 162 [l0, l1, some (.int x)] t h Q = Ev d 128 163 [l0, l1, some (.int x)] (.int x :: t) h Q := en_iload_n mm128 dX6_tick_162 rfl
theorem i128_163 {d a l1 l2 t h Q} : Ev d 128 163 [some (.ref a), l1, l2] t h Q = Ev d 128 164 [some (.ref a), l1, l2] (.ref a :: t) h Q := en_aload_n mm128 dX6_tick_163 rfl
theorem i128_164 {d a l0 l1 l2 t h Q} : Ev d 128 164 [l0, l1, l2] (.ref a :: t) h Q = (hk h a = 7 ∧ Ev d 128 167 [l0, l1, l2] (hF h a 8 :: t) h Q) := en_getfield mm128 dX6_tick_164 (by decide +kernel)
theorem i128_167 {d l0 l1 l2 t h Q} : Ev d 128 167 [l0, l1, l2] t h Q = Ev d 128 168 [l0, l1, l2] (.int 1 :: t) h Q := en_iconst mm128 dX6_tick_167 (by decide)
theorem i128_168 {d a j l0 l1 l2 t h Q} : Ev d 128 168 [l0, l1, l2] (.int j :: .ref a :: t) h Q = (hk h a = 10 ∧ inb j (hl h a) ∧ Ev d 128 169 [l0, l1, l2] (.int (hA h a j.toNatClampNeg) :: t) h Q) := en_iaload mm128 dX6_tick_168
theorem i128_169 {d l0 l1 l2 t x y h Q} : Ev d 128 169 [l0, l1, l2] (.int y :: .int x :: t) h Q = if y ≤ x then Ev d 128 210 [l0, l1, l2] t h Q else Ev d 128 172 [l0, l1, l2] t h Q := en_ic_ge mm128 dX6_tick_169 rfl
theorem i128_172 {d a l1 l2 t h Q} : Ev d 128 172 [some (.ref a), l1, l2] t h Q = Ev d 128 173 [some (.ref a), l1, l2] (.ref a :: t) h Q := en_aload_n mm128 dX6_tick_172 rfl
theorem i128_173 {d l0 l1 l2 t h Q} : Ev d 128 173 [l0, l1, l2] t h Q = Ev d 128 174 [l0, l1, l2] (.int 0 :: t) h Q := en_iconst mm128 dX6_tick_173 (by decide)
theorem i128_174 {d a l0 l1 l2 x0 h Q} : Ev (d + 1) 128 174 [l0, l1, l2] [x0, .ref a] h Q = (hk h a = 7 ∧ EvM d 116 [.ref a, x0] h (konN (d + 1) 128 177 [l0, l1, l2] [] Q)) := en_virtualN mm128 dX6_tick_174 (by decide +kernel : ml _ _ = some (2, 116)) (by decide) (rfl : mtab[116]? = some _) (by decide +kernel : npar _ = 1) rfl (by decide) rfl (of_decide_eq_true rfl) (len_cat (of_decide_eq_true rfl)) rfl rfl rfl
theorem i128_177 {d l0 l1 l2 t h Q} : Ev d 128 177 [l0, l1, l2] t h Q = Ev d 128 178 [l0, l1, l2] (.int (-1) :: t) h Q := en_iconst mm128 dX6_tick_177 (by decide)
theorem i128_178 {d l0 l1 l2 t x y h Q} : Ev d 128 178 [l0, l1, l2] (.int y :: .int x :: t) h Q = if x = y then Ev d 128 181 [l0, l1, l2] t h Q else Ev d 128 210 [l0, l1, l2] t h Q := en_ic_ne mm128 dX6_tick_178 rfl
theorem i128_181 {d a l1 l2 t h Q} : Ev d 128 181 [some (.ref a), l1, l2] t h Q = Ev d 128 182 [some (.ref a), l1, l2] (.ref a :: t) h Q := en_aload_n mm128 dX6_tick_181 rfl
theorem i128_182 {d l0 l1 t x h Q} : Ev d 128 182 [l0, l1, some (.int x)] t h Q = Ev d 128 183 [l0, l1, some (.int x)] (.int x :: t) h Q := en_iload_n mm128 dX6_tick_182 rfl
theorem i128_183 {d a l0 l1 l2 x0 h Q} : Ev (d + 1) 128 183 [l0, l1, l2] [x0, .ref a] h Q = (hk h a = 7 ∧ EvM d 119 [.ref a, x0] h (konN (d + 1) 128 186 [l0, l1, l2] [] Q)) := en_virtualN mm128 dX6_tick_183 (by decide +kernel : ml _ _ = some (2, 119)) (by decide) (rfl : mtab[119]? = some _) (by decide +kernel : npar _ = 1) rfl (by decide) rfl (of_decide_eq_true rfl) (len_cat (of_decide_eq_true rfl)) rfl rfl rfl
theorem i128_186 {d l0 l1 l2 t x h Q} : Ev d 128 186 [l0, l1, l2] (.int x :: t) h Q = if x = 0 then Ev d 128 192 [l0, l1, l2] t h Q else Ev d 128 189 [l0, l1, l2] t h Q := en_if_eq mm128 dX6_tick_186 rfl
theorem i128_189 {d l0 l1 l2 t h Q} : Ev d 128 189 [l0, l1, l2] t h Q = Ev d 128 204 [l0, l1, l2] t h Q := en_goto mm128 dX6_tick_189 rfl
theorem i128_192 {d a l1 l2 t h Q} : Ev d 128 192 [some (.ref a), l1, l2] t h Q = Ev d 128 193 [some (.ref a), l1, l2] (.ref a :: t) h Q := en_aload_n mm128 dX6_tick_192 rfl
theorem i128_193 {d l0 l1 l2 t h Q} : Ev d 128 193 [l0, l1, l2] t h Q = Ev d 128 194 [l0, l1, l2] (.int 0 :: t) h Q := en_iconst mm128 dX6_tick_193 (by decide)
theorem i128_194 {d l0 l1 t x h Q} : Ev d 128 194 [l0, l1, some (.int x)] t h Q = Ev d 128 195 [l0, l1, some (.int x)] (.int x :: t) h Q := en_iload_n mm128 dX6_tick_194 rfl
theorem i128_195 {d a l0 l1 l2 x0 x1 h Q} : Ev (d + 1) 128 195 [l0, l1, l2] [x0, x1, .ref a] h Q = (hk h a = 7 ∧ EvM d 117 [.ref a, x1, x0] h (konN (d + 1) 128 198 [l0, l1, l2] [] Q)) := en_virtualN mm128 dX6_tick_195 (by decide +kernel : ml _ _ = some (2, 117)) (by decide) (rfl : mtab[117]? = some _) (by decide +kernel : npar _ = 2) rfl (by decide) rfl (of_decide_eq_true rfl) (len_cat (of_decide_eq_true rfl)) rfl rfl rfl
theorem i128_198 {d a l1 l2 t h Q} : Ev d 128 198 [some (.ref a), l1, l2] t h Q = Ev d 128 199 [some (.ref a), l1, l2] (.ref a :: t) h Q := en_aload_n mm128 dX6_tick_198 rfl
theorem i128_199 {d l0 l1 t x h Q} : Ev d 128 199 [l0, l1, some (.int x)] t h Q = Ev d 128 200 [l0, l1, some (.int x)] (.int x :: t) h Q := en_iload_n mm128 dX6_tick_199 rfl
theorem i128_200 {d l0 l1 l2 t h Q} : Ev d 128 200 [l0, l1, l2] t h Q = Ev d 128 201 [l0, l1, l2] (.int 1 :: t) h Q := en_iconst mm128 dX6_tick_200 (by decide)
theorem i128_201 {d a l0 l1 l2 x0 x1 h Q} : Ev (d + 1) 128 201 [l0, l1, l2] [x0, x1, .ref a] h Q = (hk h a = 7 ∧ EvM d 120 [.ref a, x1, x0] h (konN (d + 1) 128 204 [l0, l1, l2] [] Q)) := en_virtualN mm128 dX6_tick_201 (by decide +kernel : ml _ _ = some (2, 120)) (by decide) (rfl : mtab[120]? = some _) (by decide +kernel : npar _ = 2) rfl (by decide) rfl (of_decide_eq_true rfl) (len_cat (of_decide_eq_true rfl)) rfl rfl rfl
theorem i128_204 {d l0 l1 t x h Q} : Ev d 128 204 [l0, l1, some (.int x)] t h Q = Ev d 128 207 [l0, nl l1, some (.int (x + 1))] t h Q := en_iinc mm128 dX6_tick_204 rfl (by decide) rfl
theorem i128_207 {d l0 l1 l2 t h Q} : Ev d 128 207 [l0, l1, l2] t h Q = Ev d 128 162 [l0, l1, l2] t h Q := en_goto mm128 dX6_tick_207 rfl
theorem i128_210 {d a l1 l2 t h Q} : Ev d 128 210 [some (.ref a), l1, l2] t h Q = Ev d 128 211 [some (.ref a), l1, l2] (.ref a :: t) h Q := en_aload_n mm128 dX6_tick_210 rfl
theorem i128_211 {d a l0 l1 l2 t h Q} : Ev d 128 211 [l0, l1, l2] (.ref a :: t) h Q = (hk h a = 7 ∧ Ev d 128 214 [l0, l1, l2] (hF h a 8 :: t) h Q) := en_getfield mm128 dX6_tick_211 (by decide +kernel)
theorem i128_214 {d l0 l1 l2 t h Q} : Ev d 128 214 [l0, l1, l2] t h Q = Ev d 128 215 [l0, l1, l2] (.int 2 :: t) h Q := en_iconst mm128 dX6_tick_214 (by decide)
theorem i128_215 {d a l0 l1 l2 t x h Q} : Ev d 128 215 [l0, l1, l2] (.int x :: .ref a :: t) h Q = Ev d 128 216 [l0, l1, l2] (.int x :: .ref a :: .int x :: .ref a :: t) h Q := en_dup2 mm128 dX6_tick_215
theorem i128_216 {d a j l0 l1 l2 t h Q} : Ev d 128 216 [l0, l1, l2] (.int j :: .ref a :: t) h Q = (hk h a = 10 ∧ inb j (hl h a) ∧ Ev d 128 217 [l0, l1, l2] (.int (hA h a j.toNatClampNeg) :: t) h Q) := en_iaload mm128 dX6_tick_216
theorem i128_217 {d l0 l1 l2 t h Q} : Ev d 128 217 [l0, l1, l2] t h Q = Ev d 128 218 [l0, l1, l2] (.int 1 :: t) h Q := en_iconst mm128 dX6_tick_217 (by decide)
theorem i128_218 {d l0 l1 l2 t x y h Q} : Ev d 128 218 [l0, l1, l2] (.int y :: .int x :: t) h Q = Ev d 128 219 [l0, l1, l2] (.int (x + y) :: t) h Q := en_iadd mm128 dX6_tick_218
theorem i128_219 {d a j l0 l1 l2 t x h Q} : Ev d 128 219 [l0, l1, l2] (.int x :: .int j :: .ref a :: t) h Q = (hk h a = 10 ∧ inb j (hl h a) ∧ Ev d 128 220 [l0, l1, l2] t (wA h a (upd (hA h a) j.toNatClampNeg x)) Q) := en_iastore mm128 dX6_tick_219
theorem i128_220 {d l0 l1 l2 h Q} : Ev d 128 220 [l0, l1, l2] [] h Q = Q (.inl none) h := en_return mm128 dX6_tick_220 rfl
abbrev em129 : MI := (yX6_countOf, cX6_countOf, 4, some .int, 6, [])
theorem mm129 : mtab[129]? = some em129 := rfl
theorem in129 {d : Nat} {h : AH} {K : AO → AH → Prop} {v0 : Nat} {v1 : Int32} : EvM d 129 [(.ref v0), (.int v1)] h K = Ev d 129 0 [some (.ref v0), some (.int v1), none, none] [] h K := evm_in mm129 (of_decide_eq_true rfl) rfl
theorem i129_0 {d l0 l1 l2 l3 t h Q} : Ev d 129 0 [l0, l1, l2, l3] t h Q = Ev d 129 1 [l0, l1, l2, l3] (.int 0 :: t) h Q := en_iconst mm129 dX6_countOf_0 (by decide)
theorem i129_1 {d l0 l1 l2 l3 t x h Q} : Ev d 129 1 [l0, l1, l2, l3] (.int x :: t) h Q = Ev d 129 2 [l0, nl l1, some (.int x), l3] t h Q := en_istore_n mm129 dX6_countOf_1 (of_decide_eq_true rfl) rfl
theorem i129_2 {d l0 l1 l2 l3 t h Q} : Ev d 129 2 [l0, l1, l2, l3] t h Q = Ev d 129 3 [l0, l1, l2, l3] (.int 0 :: t) h Q := en_iconst mm129 dX6_countOf_2 (by decide)
theorem i129_3 {d l0 l1 l2 l3 t x h Q} : Ev d 129 3 [l0, l1, l2, l3] (.int x :: t) h Q = Ev d 129 4 [l0, l1, nl l2, some (.int x)] t h Q := en_istore_n mm129 dX6_countOf_3 (of_decide_eq_true rfl) rfl
theorem i129_4 {d l0 l1 l2 t x h Q} : Ev d 129 4 [l0, l1, l2, some (.int x)] t h Q = Ev d 129 5 [l0, l1, l2, some (.int x)] (.int x :: t) h Q := en_iload_n mm129 dX6_countOf_4 rfl
theorem i129_5 {d a l1 l2 l3 t h Q} : Ev d 129 5 [some (.ref a), l1, l2, l3] t h Q = Ev d 129 6 [some (.ref a), l1, l2, l3] (.ref a :: t) h Q := en_aload_n mm129 dX6_countOf_5 rfl
theorem i129_6 {d a l0 l1 l2 l3 t h Q} : Ev d 129 6 [l0, l1, l2, l3] (.ref a :: t) h Q = (hk h a = 7 ∧ Ev d 129 9 [l0, l1, l2, l3] (hF h a 8 :: t) h Q) := en_getfield mm129 dX6_countOf_6 (by decide +kernel)
theorem i129_9 {d l0 l1 l2 l3 t h Q} : Ev d 129 9 [l0, l1, l2, l3] t h Q = Ev d 129 10 [l0, l1, l2, l3] (.int 1 :: t) h Q := en_iconst mm129 dX6_countOf_9 (by decide)
theorem i129_10 {d a j l0 l1 l2 l3 t h Q} : Ev d 129 10 [l0, l1, l2, l3] (.int j :: .ref a :: t) h Q = (hk h a = 10 ∧ inb j (hl h a) ∧ Ev d 129 11 [l0, l1, l2, l3] (.int (hA h a j.toNatClampNeg) :: t) h Q) := en_iaload mm129 dX6_countOf_10
theorem i129_11 {d l0 l1 l2 l3 t x y h Q} : Ev d 129 11 [l0, l1, l2, l3] (.int y :: .int x :: t) h Q = if y ≤ x then Ev d 129 37 [l0, l1, l2, l3] t h Q else Ev d 129 14 [l0, l1, l2, l3] t h Q := en_ic_ge mm129 dX6_countOf_11 rfl
theorem i129_14 {d l0 l1 l3 t x h Q} : Ev d 129 14 [l0, l1, some (.int x), l3] t h Q = Ev d 129 15 [l0, l1, some (.int x), l3] (.int x :: t) h Q := en_iload_n mm129 dX6_countOf_14 rfl
theorem i129_15 {d a l1 l2 l3 t h Q} : Ev d 129 15 [some (.ref a), l1, l2, l3] t h Q = Ev d 129 16 [some (.ref a), l1, l2, l3] (.ref a :: t) h Q := en_aload_n mm129 dX6_countOf_15 rfl
theorem i129_16 {d l0 l1 l2 t x h Q} : Ev d 129 16 [l0, l1, l2, some (.int x)] t h Q = Ev d 129 17 [l0, l1, l2, some (.int x)] (.int x :: t) h Q := en_iload_n mm129 dX6_countOf_16 rfl
theorem i129_17 {d a l0 l1 l2 l3 x0 x2 h Q} : Ev (d + 1) 129 17 [l0, l1, l2, l3] [x0, .ref a, x2] h Q = (hk h a = 7 ∧ EvM d 119 [.ref a, x0] h (konN (d + 1) 129 20 [l0, l1, l2, l3] [x2] Q)) := en_virtualN mm129 dX6_countOf_17 (by decide +kernel : ml _ _ = some (2, 119)) (by decide) (rfl : mtab[119]? = some _) (by decide +kernel : npar _ = 1) rfl (by decide) rfl (of_decide_eq_true rfl) (len_cat (of_decide_eq_true rfl)) rfl rfl rfl
theorem i129_20 {d l0 l2 l3 t x h Q} : Ev d 129 20 [l0, some (.int x), l2, l3] t h Q = Ev d 129 21 [l0, some (.int x), l2, l3] (.int x :: t) h Q := en_iload_n mm129 dX6_countOf_20 rfl
theorem i129_21 {d l0 l1 l2 l3 t x y h Q} : Ev d 129 21 [l0, l1, l2, l3] (.int y :: .int x :: t) h Q = if x = y then Ev d 129 24 [l0, l1, l2, l3] t h Q else Ev d 129 28 [l0, l1, l2, l3] t h Q := en_ic_ne mm129 dX6_countOf_21 rfl
theorem i129_24 {d l0 l1 l2 l3 t h Q} : Ev d 129 24 [l0, l1, l2, l3] t h Q = Ev d 129 25 [l0, l1, l2, l3] (.int 1 :: t) h Q := en_iconst mm129 dX6_countOf_24 (by decide)
theorem i129_25 {d l0 l1 l2 l3 t h Q} : Ev d 129 25 [l0, l1, l2, l3] t h Q = Ev d 129 29 [l0, l1, l2, l3] t h Q := en_goto mm129 dX6_countOf_25 rfl
theorem i129_28 {d l0 l1 l2 l3 t h Q} : Ev d 129 28 [l0, l1, l2, l3] t h Q = Ev d 129 29 [l0, l1, l2, l3] (.int 0 :: t) h Q := en_iconst mm129 dX6_countOf_28 (by decide)
theorem i129_29 {d l0 l1 l2 l3 t x y h Q} : Ev d 129 29 [l0, l1, l2, l3] (.int y :: .int x :: t) h Q = Ev d 129 30 [l0, l1, l2, l3] (.int (x + y) :: t) h Q := en_iadd mm129 dX6_countOf_29
theorem i129_30 {d l0 l1 l2 l3 t x h Q} : Ev d 129 30 [l0, l1, l2, l3] (.int x :: t) h Q = Ev d 129 31 [l0, nl l1, some (.int x), l3] t h Q := en_istore_n mm129 dX6_countOf_30 (of_decide_eq_true rfl) rfl
theorem i129_31 {d l0 l1 l2 t x h Q} : Ev d 129 31 [l0, l1, l2, some (.int x)] t h Q = Ev d 129 34 [l0, l1, nl l2, some (.int (x + 1))] t h Q := en_iinc mm129 dX6_countOf_31 rfl (by decide) rfl
theorem i129_34 {d l0 l1 l2 l3 t h Q} : Ev d 129 34 [l0, l1, l2, l3] t h Q = Ev d 129 4 [l0, l1, l2, l3] t h Q := en_goto mm129 dX6_countOf_34 rfl
theorem i129_37 {d l0 l1 l3 t x h Q} : Ev d 129 37 [l0, l1, some (.int x), l3] t h Q = Ev d 129 38 [l0, l1, some (.int x), l3] (.int x :: t) h Q := en_iload_n mm129 dX6_countOf_37 rfl
theorem i129_38 {d l0 l1 l2 l3 x h Q} : Ev d 129 38 [l0, l1, l2, l3] [.int x] h Q = Q (.inl (some (.int x))) h := en_ireturnI mm129 dX6_countOf_38 rfl
abbrev em130 : MI := (yX6_isFinished, cX6_isFinished, 1, some .boolean, 6, [])
theorem mm130 : mtab[130]? = some em130 := rfl
theorem in130 {d : Nat} {h : AH} {K : AO → AH → Prop} {v0 : Nat} : EvM d 130 [(.ref v0)] h K = Ev d 130 0 [some (.ref v0)] [] h K := evm_in mm130 (of_decide_eq_true rfl) rfl
theorem i130_0 {d a t h Q} : Ev d 130 0 [some (.ref a)] t h Q = Ev d 130 1 [some (.ref a)] (.ref a :: t) h Q := en_aload_n mm130 dX6_isFinished_0 rfl
theorem i130_1 {d l0 t h Q} : Ev d 130 1 [l0] t h Q = Ev d 130 2 [l0] (.int 0 :: t) h Q := en_iconst mm130 dX6_isFinished_1 (by decide)
theorem i130_2 {d a l0 x0 h Q} : Ev (d + 1) 130 2 [l0] [x0, .ref a] h Q = (hk h a = 7 ∧ EvM d 129 [.ref a, x0] h (konN (d + 1) 130 5 [l0] [] Q)) := en_virtualN mm130 dX6_isFinished_2 (by decide +kernel : ml _ _ = some (2, 129)) (by decide) (rfl : mtab[129]? = some _) (by decide +kernel : npar _ = 1) rfl (by decide) rfl (of_decide_eq_true rfl) (len_cat (of_decide_eq_true rfl)) rfl rfl rfl
theorem i130_5 {d a t h Q} : Ev d 130 5 [some (.ref a)] t h Q = Ev d 130 6 [some (.ref a)] (.ref a :: t) h Q := en_aload_n mm130 dX6_isFinished_5 rfl
theorem i130_6 {d l0 t h Q} : Ev d 130 6 [l0] t h Q = Ev d 130 7 [l0] (.int 1 :: t) h Q := en_iconst mm130 dX6_isFinished_6 (by decide)
theorem i130_7 {d a l0 x0 x2 h Q} : Ev (d + 1) 130 7 [l0] [x0, .ref a, x2] h Q = (hk h a = 7 ∧ EvM d 129 [.ref a, x0] h (konN (d + 1) 130 10 [l0] [x2] Q)) := en_virtualN mm130 dX6_isFinished_7 (by decide +kernel : ml _ _ = some (2, 129)) (by decide) (rfl : mtab[129]? = some _) (by decide +kernel : npar _ = 1) rfl (by decide) rfl (of_decide_eq_true rfl) (len_cat (of_decide_eq_true rfl)) rfl rfl rfl
theorem i130_10 {d l0 t x y h Q} : Ev d 130 10 [l0] (.int y :: .int x :: t) h Q = Ev d 130 11 [l0] (.int (x + y) :: t) h Q := en_iadd mm130 dX6_isFinished_10
theorem i130_11 {d a t h Q} : Ev d 130 11 [some (.ref a)] t h Q = Ev d 130 12 [some (.ref a)] (.ref a :: t) h Q := en_aload_n mm130 dX6_isFinished_11 rfl
theorem i130_12 {d l0 t h Q} : Ev d 130 12 [l0] t h Q = Ev d 130 13 [l0] (.int 2 :: t) h Q := en_iconst mm130 dX6_isFinished_12 (by decide)
theorem i130_13 {d a l0 x0 x2 h Q} : Ev (d + 1) 130 13 [l0] [x0, .ref a, x2] h Q = (hk h a = 7 ∧ EvM d 129 [.ref a, x0] h (konN (d + 1) 130 16 [l0] [x2] Q)) := en_virtualN mm130 dX6_isFinished_13 (by decide +kernel : ml _ _ = some (2, 129)) (by decide) (rfl : mtab[129]? = some _) (by decide +kernel : npar _ = 1) rfl (by decide) rfl (of_decide_eq_true rfl) (len_cat (of_decide_eq_true rfl)) rfl rfl rfl
theorem i130_16 {d l0 t x y h Q} : Ev d 130 16 [l0] (.int y :: .int x :: t) h Q = Ev d 130 17 [l0] (.int (x + y) :: t) h Q := en_iadd mm130 dX6_isFinished_16
theorem i130_17 {d l0 t x h Q} : Ev d 130 17 [l0] (.int x :: t) h Q = if x = 0 then Ev d 130 20 [l0] t h Q else Ev d 130 24 [l0] t h Q := en_if_ne mm130 dX6_isFinished_17 rfl
theorem i130_20 {d l0 t h Q} : Ev d 130 20 [l0] t h Q = Ev d 130 21 [l0] (.int 1 :: t) h Q := en_iconst mm130 dX6_isFinished_20 (by decide)
theorem i130_21 {d l0 t h Q} : Ev d 130 21 [l0] t h Q = Ev d 130 25 [l0] t h Q := en_goto mm130 dX6_isFinished_21 rfl
theorem i130_24 {d l0 t h Q} : Ev d 130 24 [l0] t h Q = Ev d 130 25 [l0] (.int 0 :: t) h Q := en_iconst mm130 dX6_isFinished_24 (by decide)
theorem i130_25 {d l0 x h Q} : Ev d 130 25 [l0] [.int x] h Q = (narrow .boolean (.int x) = .int x ∧ Q (.inl (some (.int x))) h) := en_ireturn mm130 dX6_isFinished_25 rfl
abbrev em131 : MI := (yX6_noZone, cX6_noZone, 2, some .boolean, 6, [])
theorem mm131 : mtab[131]? = some em131 := rfl
theorem in131 {d : Nat} {h : AH} {K : AO → AH → Prop} {v0 : Nat} {v1 : Int32} : EvM d 131 [(.ref v0), (.int v1)] h K = Ev d 131 0 [some (.ref v0), some (.int v1)] [] h K := evm_in mm131 (of_decide_eq_true rfl) rfl
theorem i131_0 {d a l1 t h Q} : Ev d 131 0 [some (.ref a), l1] t h Q = Ev d 131 1 [some (.ref a), l1] (.ref a :: t) h Q := en_aload_n mm131 dX6_noZone_0 rfl
theorem i131_1 {d l0 t x h Q} : Ev d 131 1 [l0, some (.int x)] t h Q = Ev d 131 2 [l0, some (.int x)] (.int x :: t) h Q := en_iload_n mm131 dX6_noZone_1 rfl
theorem i131_2 {d l0 l1 t h Q} : Ev d 131 2 [l0, l1] t h Q = Ev d 131 3 [l0, l1] (.int 0 :: t) h Q := en_iconst mm131 dX6_noZone_2 (by decide)
theorem i131_3 {d a l1 t h Q} : Ev d 131 3 [some (.ref a), l1] t h Q = Ev d 131 4 [some (.ref a), l1] (.ref a :: t) h Q := en_aload_n mm131 dX6_noZone_3 rfl
theorem i131_4 {d a l0 l1 t h Q} : Ev d 131 4 [l0, l1] (.ref a :: t) h Q = (hk h a = 7 ∧ Ev d 131 7 [l0, l1] (hF h a 8 :: t) h Q) := en_getfield mm131 dX6_noZone_4 (by decide +kernel)
theorem i131_7 {d l0 l1 t h Q} : Ev d 131 7 [l0, l1] t h Q = Ev d 131 8 [l0, l1] (.int 0 :: t) h Q := en_iconst mm131 dX6_noZone_7 (by decide)
theorem i131_8 {d a j l0 l1 t h Q} : Ev d 131 8 [l0, l1] (.int j :: .ref a :: t) h Q = (hk h a = 10 ∧ inb j (hl h a) ∧ Ev d 131 9 [l0, l1] (.int (hA h a j.toNatClampNeg) :: t) h Q) := en_iaload mm131 dX6_noZone_8
theorem i131_9 {d l0 l1 t h Q} : Ev d 131 9 [l0, l1] t h Q = Ev d 131 10 [l0, l1] (.int 1 :: t) h Q := en_iconst mm131 dX6_noZone_9 (by decide)
theorem i131_10 {d l0 l1 t x y h Q} : Ev d 131 10 [l0, l1] (.int y :: .int x :: t) h Q = Ev d 131 11 [l0, l1] (.int (x - y) :: t) h Q := en_isub mm131 dX6_noZone_10
theorem i131_11 {d l0 l1 x0 x1 x2 x3 h Q} : Ev (d + 1) 131 11 [l0, l1] [x0, x1, x2, x3] h Q = EvM d 90 [x2, x1, x0] h (konN (d + 1) 131 14 [l0, l1] [x3] Q) := en_staticN mm131 dX6_noZone_11 (by decide +kernel : ml _ _ = some (0, 90)) (by decide) (rfl : mtab[90]? = some _) (by decide +kernel : npar _ = 3) (of_decide_eq_true rfl) (len_cat (of_decide_eq_true rfl)) rfl rfl rfl
theorem i131_14 {d l0 l1 t x h Q} : Ev d 131 14 [l0, l1] (.int x :: t) h Q = if x = 0 then Ev d 131 17 [l0, l1] t h Q else Ev d 131 21 [l0, l1] t h Q := en_if_ne mm131 dX6_noZone_14 rfl
theorem i131_17 {d l0 l1 t h Q} : Ev d 131 17 [l0, l1] t h Q = Ev d 131 18 [l0, l1] (.int 1 :: t) h Q := en_iconst mm131 dX6_noZone_17 (by decide)
theorem i131_18 {d l0 l1 t h Q} : Ev d 131 18 [l0, l1] t h Q = Ev d 131 22 [l0, l1] t h Q := en_goto mm131 dX6_noZone_18 rfl
theorem i131_21 {d l0 l1 t h Q} : Ev d 131 21 [l0, l1] t h Q = Ev d 131 22 [l0, l1] (.int 0 :: t) h Q := en_iconst mm131 dX6_noZone_21 (by decide)
theorem i131_22 {d l0 l1 t h Q} : Ev d 131 22 [l0, l1] t h Q = Ev d 131 23 [l0, l1] (.int 1 :: t) h Q := en_iconst mm131 dX6_noZone_22 (by decide)
theorem i131_23 {d a l0 l1 x0 x1 h Q} : Ev (d + 1) 131 23 [l0, l1] [x0, x1, .ref a] h Q = (hk h a = 7 ∧ EvM d 89 [.ref a, x1, x0] h (konN (d + 1) 131 26 [l0, l1] [] Q)) := en_virtualN mm131 dX6_noZone_23 (by decide +kernel : ml _ _ = some (2, 89)) (by decide) (rfl : mtab[89]? = some _) (by decide +kernel : npar _ = 2) rfl (by decide) rfl (of_decide_eq_true rfl) (len_cat (of_decide_eq_true rfl)) rfl rfl rfl
theorem i131_26 {d l0 l1 x h Q} : Ev d 131 26 [l0, l1] [.int x] h Q = (narrow .boolean (.int x) = .int x ∧ Q (.inl (some (.int x))) h) := en_ireturn mm131 dX6_noZone_26 rfl
abbrev em132 : MI := (yX6_noSheet, cX6_noSheet, 2, some .boolean, 6, [])
theorem mm132 : mtab[132]? = some em132 := rfl
theorem in132 {d : Nat} {h : AH} {K : AO → AH → Prop} {v0 : Nat} {v1 : Int32} : EvM d 132 [(.ref v0), (.int v1)] h K = Ev d 132 0 [some (.ref v0), some (.int v1)] [] h K := evm_in mm132 (of_decide_eq_true rfl) rfl
theorem i132_0 {d a l1 t h Q} : Ev d 132 0 [some (.ref a), l1] t h Q = Ev d 132 1 [some (.ref a), l1] (.ref a :: t) h Q := en_aload_n mm132 dX6_noSheet_0 rfl
theorem i132_1 {d l0 t x h Q} : Ev d 132 1 [l0, some (.int x)] t h Q = Ev d 132 2 [l0, some (.int x)] (.int x :: t) h Q := en_iload_n mm132 dX6_noSheet_1 rfl
theorem i132_2 {d l0 l1 t h Q} : Ev d 132 2 [l0, l1] t h Q = Ev d 132 3 [l0, l1] (.int 0 :: t) h Q := en_iconst mm132 dX6_noSheet_2 (by decide)
theorem i132_3 {d a l1 t h Q} : Ev d 132 3 [some (.ref a), l1] t h Q = Ev d 132 4 [some (.ref a), l1] (.ref a :: t) h Q := en_aload_n mm132 dX6_noSheet_3 rfl
theorem i132_4 {d a l0 l1 t h Q} : Ev d 132 4 [l0, l1] (.ref a :: t) h Q = (hk h a = 7 ∧ Ev d 132 7 [l0, l1] (hF h a 8 :: t) h Q) := en_getfield mm132 dX6_noSheet_4 (by decide +kernel)
theorem i132_7 {d l0 l1 t h Q} : Ev d 132 7 [l0, l1] t h Q = Ev d 132 8 [l0, l1] (.int 1 :: t) h Q := en_iconst mm132 dX6_noSheet_7 (by decide)
theorem i132_8 {d a j l0 l1 t h Q} : Ev d 132 8 [l0, l1] (.int j :: .ref a :: t) h Q = (hk h a = 10 ∧ inb j (hl h a) ∧ Ev d 132 9 [l0, l1] (.int (hA h a j.toNatClampNeg) :: t) h Q) := en_iaload mm132 dX6_noSheet_8
theorem i132_9 {d l0 l1 t h Q} : Ev d 132 9 [l0, l1] t h Q = Ev d 132 10 [l0, l1] (.int 1 :: t) h Q := en_iconst mm132 dX6_noSheet_9 (by decide)
theorem i132_10 {d l0 l1 t x y h Q} : Ev d 132 10 [l0, l1] (.int y :: .int x :: t) h Q = Ev d 132 11 [l0, l1] (.int (x - y) :: t) h Q := en_isub mm132 dX6_noSheet_10
theorem i132_11 {d l0 l1 x0 x1 x2 x3 h Q} : Ev (d + 1) 132 11 [l0, l1] [x0, x1, x2, x3] h Q = EvM d 90 [x2, x1, x0] h (konN (d + 1) 132 14 [l0, l1] [x3] Q) := en_staticN mm132 dX6_noSheet_11 (by decide +kernel : ml _ _ = some (0, 90)) (by decide) (rfl : mtab[90]? = some _) (by decide +kernel : npar _ = 3) (of_decide_eq_true rfl) (len_cat (of_decide_eq_true rfl)) rfl rfl rfl
theorem i132_14 {d l0 l1 t x h Q} : Ev d 132 14 [l0, l1] (.int x :: t) h Q = if x = 0 then Ev d 132 17 [l0, l1] t h Q else Ev d 132 21 [l0, l1] t h Q := en_if_ne mm132 dX6_noSheet_14 rfl
theorem i132_17 {d l0 l1 t h Q} : Ev d 132 17 [l0, l1] t h Q = Ev d 132 18 [l0, l1] (.int 1 :: t) h Q := en_iconst mm132 dX6_noSheet_17 (by decide)
theorem i132_18 {d l0 l1 t h Q} : Ev d 132 18 [l0, l1] t h Q = Ev d 132 22 [l0, l1] t h Q := en_goto mm132 dX6_noSheet_18 rfl
theorem i132_21 {d l0 l1 t h Q} : Ev d 132 21 [l0, l1] t h Q = Ev d 132 22 [l0, l1] (.int 0 :: t) h Q := en_iconst mm132 dX6_noSheet_21 (by decide)
theorem i132_22 {d l0 l1 t h Q} : Ev d 132 22 [l0, l1] t h Q = Ev d 132 23 [l0, l1] (.int 1 :: t) h Q := en_iconst mm132 dX6_noSheet_22 (by decide)
theorem i132_23 {d a l0 l1 x0 x1 h Q} : Ev (d + 1) 132 23 [l0, l1] [x0, x1, .ref a] h Q = (hk h a = 7 ∧ EvM d 89 [.ref a, x1, x0] h (konN (d + 1) 132 26 [l0, l1] [] Q)) := en_virtualN mm132 dX6_noSheet_23 (by decide +kernel : ml _ _ = some (2, 89)) (by decide) (rfl : mtab[89]? = some _) (by decide +kernel : npar _ = 2) rfl (by decide) rfl (of_decide_eq_true rfl) (len_cat (of_decide_eq_true rfl)) rfl rfl rfl
theorem i132_26 {d l0 l1 x h Q} : Ev d 132 26 [l0, l1] [.int x] h Q = (narrow .boolean (.int x) = .int x ∧ Q (.inl (some (.int x))) h) := en_ireturn mm132 dX6_noSheet_26 rfl
abbrev em133 : MI := (yX6_noThickness, cX6_noThickness, 2, some .boolean, 6, [])
theorem mm133 : mtab[133]? = some em133 := rfl
theorem in133 {d : Nat} {h : AH} {K : AO → AH → Prop} {v0 : Nat} {v1 : Int32} : EvM d 133 [(.ref v0), (.int v1)] h K = Ev d 133 0 [some (.ref v0), some (.int v1)] [] h K := evm_in mm133 (of_decide_eq_true rfl) rfl
theorem i133_0 {d a l1 t h Q} : Ev d 133 0 [some (.ref a), l1] t h Q = Ev d 133 1 [some (.ref a), l1] (.ref a :: t) h Q := en_aload_n mm133 dX6_noThickness_0 rfl
theorem i133_1 {d l0 t x h Q} : Ev d 133 1 [l0, some (.int x)] t h Q = Ev d 133 2 [l0, some (.int x)] (.int x :: t) h Q := en_iload_n mm133 dX6_noThickness_1 rfl
theorem i133_2 {d l0 l1 t h Q} : Ev d 133 2 [l0, l1] t h Q = Ev d 133 3 [l0, l1] (.int 2 :: t) h Q := en_iconst mm133 dX6_noThickness_2 (by decide)
theorem i133_3 {d l0 l1 t h Q} : Ev d 133 3 [l0, l1] t h Q = Ev d 133 5 [l0, l1] (.int 19 :: t) h Q := en_bipush mm133 dX6_noThickness_3 (by decide)
theorem i133_5 {d l0 l1 x0 x1 x2 x3 h Q} : Ev (d + 1) 133 5 [l0, l1] [x0, x1, x2, x3] h Q = EvM d 90 [x2, x1, x0] h (konN (d + 1) 133 8 [l0, l1] [x3] Q) := en_staticN mm133 dX6_noThickness_5 (by decide +kernel : ml _ _ = some (0, 90)) (by decide) (rfl : mtab[90]? = some _) (by decide +kernel : npar _ = 3) (of_decide_eq_true rfl) (len_cat (of_decide_eq_true rfl)) rfl rfl rfl
theorem i133_8 {d l0 l1 t x h Q} : Ev d 133 8 [l0, l1] (.int x :: t) h Q = if x = 0 then Ev d 133 11 [l0, l1] t h Q else Ev d 133 15 [l0, l1] t h Q := en_if_ne mm133 dX6_noThickness_8 rfl
theorem i133_11 {d l0 l1 t h Q} : Ev d 133 11 [l0, l1] t h Q = Ev d 133 12 [l0, l1] (.int 1 :: t) h Q := en_iconst mm133 dX6_noThickness_11 (by decide)
theorem i133_12 {d l0 l1 t h Q} : Ev d 133 12 [l0, l1] t h Q = Ev d 133 16 [l0, l1] t h Q := en_goto mm133 dX6_noThickness_12 rfl
theorem i133_15 {d l0 l1 t h Q} : Ev d 133 15 [l0, l1] t h Q = Ev d 133 16 [l0, l1] (.int 0 :: t) h Q := en_iconst mm133 dX6_noThickness_15 (by decide)
theorem i133_16 {d l0 l1 t h Q} : Ev d 133 16 [l0, l1] t h Q = Ev d 133 17 [l0, l1] (.int 1 :: t) h Q := en_iconst mm133 dX6_noThickness_16 (by decide)
theorem i133_17 {d a l0 l1 x0 x1 h Q} : Ev (d + 1) 133 17 [l0, l1] [x0, x1, .ref a] h Q = (hk h a = 7 ∧ EvM d 89 [.ref a, x1, x0] h (konN (d + 1) 133 20 [l0, l1] [] Q)) := en_virtualN mm133 dX6_noThickness_17 (by decide +kernel : ml _ _ = some (2, 89)) (by decide) (rfl : mtab[89]? = some _) (by decide +kernel : npar _ = 2) rfl (by decide) rfl (of_decide_eq_true rfl) (len_cat (of_decide_eq_true rfl)) rfl rfl rfl
theorem i133_20 {d l0 l1 x h Q} : Ev d 133 20 [l0, l1] [.int x] h Q = (narrow .boolean (.int x) = .int x ∧ Q (.inl (some (.int x))) h) := en_ireturn mm133 dX6_noThickness_20 rfl
abbrev em134 : MI := (yX6_isEmpty, cX6_isEmpty, 1, some .boolean, 6, [])
theorem mm134 : mtab[134]? = some em134 := rfl
theorem in134 {d : Nat} {h : AH} {K : AO → AH → Prop} {v0 : Nat} : EvM d 134 [(.ref v0)] h K = Ev d 134 0 [some (.ref v0)] [] h K := evm_in mm134 (of_decide_eq_true rfl) rfl
theorem i134_0 {d a t h Q} : Ev d 134 0 [some (.ref a)] t h Q = Ev d 134 1 [some (.ref a)] (.ref a :: t) h Q := en_aload_n mm134 dX6_isEmpty_0 rfl
theorem i134_1 {d a l0 t h Q} : Ev d 134 1 [l0] (.ref a :: t) h Q = (hk h a = 7 ∧ Ev d 134 4 [l0] (hF h a 8 :: t) h Q) := en_getfield mm134 dX6_isEmpty_1 (by decide +kernel)
theorem i134_4 {d l0 t h Q} : Ev d 134 4 [l0] t h Q = Ev d 134 5 [l0] (.int 0 :: t) h Q := en_iconst mm134 dX6_isEmpty_4 (by decide)
theorem i134_5 {d a j l0 t h Q} : Ev d 134 5 [l0] (.int j :: .ref a :: t) h Q = (hk h a = 10 ∧ inb j (hl h a) ∧ Ev d 134 6 [l0] (.int (hA h a j.toNatClampNeg) :: t) h Q) := en_iaload mm134 dX6_isEmpty_5
theorem i134_6 {d l0 t x h Q} : Ev d 134 6 [l0] (.int x :: t) h Q = if x = 0 then Ev d 134 9 [l0] t h Q else Ev d 134 13 [l0] t h Q := en_if_ne mm134 dX6_isEmpty_6 rfl
theorem i134_9 {d l0 t h Q} : Ev d 134 9 [l0] t h Q = Ev d 134 10 [l0] (.int 1 :: t) h Q := en_iconst mm134 dX6_isEmpty_9 (by decide)
theorem i134_10 {d l0 t h Q} : Ev d 134 10 [l0] t h Q = Ev d 134 14 [l0] t h Q := en_goto mm134 dX6_isEmpty_10 rfl
theorem i134_13 {d l0 t h Q} : Ev d 134 13 [l0] t h Q = Ev d 134 14 [l0] (.int 0 :: t) h Q := en_iconst mm134 dX6_isEmpty_13 (by decide)
theorem i134_14 {d l0 x h Q} : Ev d 134 14 [l0] [.int x] h Q = (narrow .boolean (.int x) = .int x ∧ Q (.inl (some (.int x))) h) := en_ireturn mm134 dX6_isEmpty_14 rfl
abbrev em135 : MI := (yX6_zoneCount, cX6_zoneCount, 1, some .int, 6, [])
theorem mm135 : mtab[135]? = some em135 := rfl
theorem in135 {d : Nat} {h : AH} {K : AO → AH → Prop} {v0 : Nat} : EvM d 135 [(.ref v0)] h K = Ev d 135 0 [some (.ref v0)] [] h K := evm_in mm135 (of_decide_eq_true rfl) rfl
theorem i135_0 {d a t h Q} : Ev d 135 0 [some (.ref a)] t h Q = Ev d 135 1 [some (.ref a)] (.ref a :: t) h Q := en_aload_n mm135 dX6_zoneCount_0 rfl
theorem i135_1 {d l0 t h Q} : Ev d 135 1 [l0] t h Q = Ev d 135 2 [l0] (.int 0 :: t) h Q := en_iconst mm135 dX6_zoneCount_1 (by decide)
theorem i135_2 {d a l0 t x h Q} : Ev d 135 2 [l0] (.int x :: .ref a :: t) h Q = (hk h a = 7 ∧ Ev d 135 5 [l0] t (wF h a 0 (.int x)) Q) := en_putfield mm135 dX6_zoneCount_2 (by decide +kernel) rfl
theorem i135_5 {d a t h Q} : Ev d 135 5 [some (.ref a)] t h Q = Ev d 135 6 [some (.ref a)] (.ref a :: t) h Q := en_aload_n mm135 dX6_zoneCount_5 rfl
theorem i135_6 {d a l0 t h Q} : Ev d 135 6 [l0] (.ref a :: t) h Q = (hk h a = 7 ∧ Ev d 135 9 [l0] (hF h a 8 :: t) h Q) := en_getfield mm135 dX6_zoneCount_6 (by decide +kernel)
theorem i135_9 {d l0 t h Q} : Ev d 135 9 [l0] t h Q = Ev d 135 10 [l0] (.int 0 :: t) h Q := en_iconst mm135 dX6_zoneCount_9 (by decide)
theorem i135_10 {d a j l0 t h Q} : Ev d 135 10 [l0] (.int j :: .ref a :: t) h Q = (hk h a = 10 ∧ inb j (hl h a) ∧ Ev d 135 11 [l0] (.int (hA h a j.toNatClampNeg) :: t) h Q) := en_iaload mm135 dX6_zoneCount_10
theorem i135_11 {d l0 x h Q} : Ev d 135 11 [l0] [.int x] h Q = Q (.inl (some (.int x))) h := en_ireturnI mm135 dX6_zoneCount_11 rfl
abbrev em136 : MI := (yX6_sheetCount, cX6_sheetCount, 1, some .int, 6, [])
theorem mm136 : mtab[136]? = some em136 := rfl
theorem in136 {d : Nat} {h : AH} {K : AO → AH → Prop} {v0 : Nat} : EvM d 136 [(.ref v0)] h K = Ev d 136 0 [some (.ref v0)] [] h K := evm_in mm136 (of_decide_eq_true rfl) rfl
theorem i136_0 {d a t h Q} : Ev d 136 0 [some (.ref a)] t h Q = Ev d 136 1 [some (.ref a)] (.ref a :: t) h Q := en_aload_n mm136 dX6_sheetCount_0 rfl
theorem i136_1 {d l0 t h Q} : Ev d 136 1 [l0] t h Q = Ev d 136 2 [l0] (.int 0 :: t) h Q := en_iconst mm136 dX6_sheetCount_1 (by decide)
theorem i136_2 {d a l0 t x h Q} : Ev d 136 2 [l0] (.int x :: .ref a :: t) h Q = (hk h a = 7 ∧ Ev d 136 5 [l0] t (wF h a 0 (.int x)) Q) := en_putfield mm136 dX6_sheetCount_2 (by decide +kernel) rfl
theorem i136_5 {d a t h Q} : Ev d 136 5 [some (.ref a)] t h Q = Ev d 136 6 [some (.ref a)] (.ref a :: t) h Q := en_aload_n mm136 dX6_sheetCount_5 rfl
theorem i136_6 {d a l0 t h Q} : Ev d 136 6 [l0] (.ref a :: t) h Q = (hk h a = 7 ∧ Ev d 136 9 [l0] (hF h a 8 :: t) h Q) := en_getfield mm136 dX6_sheetCount_6 (by decide +kernel)
theorem i136_9 {d l0 t h Q} : Ev d 136 9 [l0] t h Q = Ev d 136 10 [l0] (.int 1 :: t) h Q := en_iconst mm136 dX6_sheetCount_9 (by decide)
theorem i136_10 {d a j l0 t h Q} : Ev d 136 10 [l0] (.int j :: .ref a :: t) h Q = (hk h a = 10 ∧ inb j (hl h a) ∧ Ev d 136 11 [l0] (.int (hA h a j.toNatClampNeg) :: t) h Q) := en_iaload mm136 dX6_sheetCount_10
theorem i136_11 {d l0 x h Q} : Ev d 136 11 [l0] [.int x] h Q = Q (.inl (some (.int x))) h := en_ireturnI mm136 dX6_sheetCount_11 rfl
abbrev em137 : MI := (yX6_clock, cX6_clock, 1, some .int, 6, [])
theorem mm137 : mtab[137]? = some em137 := rfl
theorem in137 {d : Nat} {h : AH} {K : AO → AH → Prop} {v0 : Nat} : EvM d 137 [(.ref v0)] h K = Ev d 137 0 [some (.ref v0)] [] h K := evm_in mm137 (of_decide_eq_true rfl) rfl
theorem i137_0 {d a t h Q} : Ev d 137 0 [some (.ref a)] t h Q = Ev d 137 1 [some (.ref a)] (.ref a :: t) h Q := en_aload_n mm137 dX6_clock_0 rfl
theorem i137_1 {d l0 t h Q} : Ev d 137 1 [l0] t h Q = Ev d 137 2 [l0] (.int 0 :: t) h Q := en_iconst mm137 dX6_clock_1 (by decide)
theorem i137_2 {d a l0 t x h Q} : Ev d 137 2 [l0] (.int x :: .ref a :: t) h Q = (hk h a = 7 ∧ Ev d 137 5 [l0] t (wF h a 0 (.int x)) Q) := en_putfield mm137 dX6_clock_2 (by decide +kernel) rfl
theorem i137_5 {d a t h Q} : Ev d 137 5 [some (.ref a)] t h Q = Ev d 137 6 [some (.ref a)] (.ref a :: t) h Q := en_aload_n mm137 dX6_clock_5 rfl
theorem i137_6 {d a l0 t h Q} : Ev d 137 6 [l0] (.ref a :: t) h Q = (hk h a = 7 ∧ Ev d 137 9 [l0] (hF h a 8 :: t) h Q) := en_getfield mm137 dX6_clock_6 (by decide +kernel)
theorem i137_9 {d l0 t h Q} : Ev d 137 9 [l0] t h Q = Ev d 137 10 [l0] (.int 2 :: t) h Q := en_iconst mm137 dX6_clock_9 (by decide)
theorem i137_10 {d a j l0 t h Q} : Ev d 137 10 [l0] (.int j :: .ref a :: t) h Q = (hk h a = 10 ∧ inb j (hl h a) ∧ Ev d 137 11 [l0] (.int (hA h a j.toNatClampNeg) :: t) h Q) := en_iaload mm137 dX6_clock_10
theorem i137_11 {d l0 x h Q} : Ev d 137 11 [l0] [.int x] h Q = Q (.inl (some (.int x))) h := en_ireturnI mm137 dX6_clock_11 rfl
abbrev em138 : MI := (yX6_zone, cX6_zone, 3, some .int, 6, [])
theorem mm138 : mtab[138]? = some em138 := rfl
theorem in138 {d : Nat} {h : AH} {K : AO → AH → Prop} {v0 : Nat} {v1 : Int32} {v2 : Int32} : EvM d 138 [(.ref v0), (.int v1), (.int v2)] h K = Ev d 138 0 [some (.ref v0), some (.int v1), some (.int v2)] [] h K := evm_in mm138 (of_decide_eq_true rfl) rfl
theorem i138_0 {d a l1 l2 t h Q} : Ev d 138 0 [some (.ref a), l1, l2] t h Q = Ev d 138 1 [some (.ref a), l1, l2] (.ref a :: t) h Q := en_aload_n mm138 dX6_zone_0 rfl
theorem i138_1 {d l0 l1 l2 t h Q} : Ev d 138 1 [l0, l1, l2] t h Q = Ev d 138 2 [l0, l1, l2] (.int 0 :: t) h Q := en_iconst mm138 dX6_zone_1 (by decide)
theorem i138_2 {d a l0 l1 l2 t x h Q} : Ev d 138 2 [l0, l1, l2] (.int x :: .ref a :: t) h Q = (hk h a = 7 ∧ Ev d 138 5 [l0, l1, l2] t (wF h a 0 (.int x)) Q) := en_putfield mm138 dX6_zone_2 (by decide +kernel) rfl
theorem i138_5 {d a l1 l2 t h Q} : Ev d 138 5 [some (.ref a), l1, l2] t h Q = Ev d 138 6 [some (.ref a), l1, l2] (.ref a :: t) h Q := en_aload_n mm138 dX6_zone_5 rfl
theorem i138_6 {d l0 l2 t x h Q} : Ev d 138 6 [l0, some (.int x), l2] t h Q = Ev d 138 7 [l0, some (.int x), l2] (.int x :: t) h Q := en_iload_n mm138 dX6_zone_6 rfl
theorem i138_7 {d a l0 l1 l2 x0 h Q} : Ev (d + 1) 138 7 [l0, l1, l2] [x0, .ref a] h Q = (hk h a = 7 ∧ EvM d 131 [.ref a, x0] h (konN (d + 1) 138 10 [l0, l1, l2] [] Q)) := en_virtualN mm138 dX6_zone_7 (by decide +kernel : ml _ _ = some (2, 131)) (by decide) (rfl : mtab[131]? = some _) (by decide +kernel : npar _ = 1) rfl (by decide) rfl (of_decide_eq_true rfl) (len_cat (of_decide_eq_true rfl)) rfl rfl rfl
theorem i138_10 {d l0 l1 l2 t x h Q} : Ev d 138 10 [l0, l1, l2] (.int x :: t) h Q = if x = 0 then Ev d 138 13 [l0, l1, l2] t h Q else Ev d 138 36 [l0, l1, l2] t h Q := en_if_ne mm138 dX6_zone_10 rfl
theorem i138_13 {d a l1 l2 t h Q} : Ev d 138 13 [some (.ref a), l1, l2] t h Q = Ev d 138 14 [some (.ref a), l1, l2] (.ref a :: t) h Q := en_aload_n mm138 dX6_zone_13 rfl
theorem i138_14 {d l0 l1 t x h Q} : Ev d 138 14 [l0, l1, some (.int x)] t h Q = Ev d 138 15 [l0, l1, some (.int x)] (.int x :: t) h Q := en_iload_n mm138 dX6_zone_14 rfl
theorem i138_15 {d l0 l1 l2 t h Q} : Ev d 138 15 [l0, l1, l2] t h Q = Ev d 138 16 [l0, l1, l2] (.int 0 :: t) h Q := en_iconst mm138 dX6_zone_15 (by decide)
theorem i138_16 {d l0 l1 l2 t h Q} : Ev d 138 16 [l0, l1, l2] t h Q = Ev d 138 18 [l0, l1, l2] (.int 6 :: t) h Q := en_bipush mm138 dX6_zone_16 (by decide)
theorem i138_18 {d l0 l1 l2 x0 x1 x2 x3 h Q} : Ev (d + 1) 138 18 [l0, l1, l2] [x0, x1, x2, x3] h Q = EvM d 90 [x2, x1, x0] h (konN (d + 1) 138 21 [l0, l1, l2] [x3] Q) := en_staticN mm138 dX6_zone_18 (by decide +kernel : ml _ _ = some (0, 90)) (by decide) (rfl : mtab[90]? = some _) (by decide +kernel : npar _ = 3) (of_decide_eq_true rfl) (len_cat (of_decide_eq_true rfl)) rfl rfl rfl
theorem i138_21 {d l0 l1 l2 t x h Q} : Ev d 138 21 [l0, l1, l2] (.int x :: t) h Q = if x = 0 then Ev d 138 24 [l0, l1, l2] t h Q else Ev d 138 28 [l0, l1, l2] t h Q := en_if_ne mm138 dX6_zone_21 rfl
theorem i138_24 {d l0 l1 l2 t h Q} : Ev d 138 24 [l0, l1, l2] t h Q = Ev d 138 25 [l0, l1, l2] (.int 1 :: t) h Q := en_iconst mm138 dX6_zone_24 (by decide)
theorem i138_25 {d l0 l1 l2 t h Q} : Ev d 138 25 [l0, l1, l2] t h Q = Ev d 138 29 [l0, l1, l2] t h Q := en_goto mm138 dX6_zone_25 rfl
theorem i138_28 {d l0 l1 l2 t h Q} : Ev d 138 28 [l0, l1, l2] t h Q = Ev d 138 29 [l0, l1, l2] (.int 0 :: t) h Q := en_iconst mm138 dX6_zone_28 (by decide)
theorem i138_29 {d l0 l1 l2 t h Q} : Ev d 138 29 [l0, l1, l2] t h Q = Ev d 138 30 [l0, l1, l2] (.int 2 :: t) h Q := en_iconst mm138 dX6_zone_29 (by decide)
theorem i138_30 {d a l0 l1 l2 x0 x1 h Q} : Ev (d + 1) 138 30 [l0, l1, l2] [x0, x1, .ref a] h Q = (hk h a = 7 ∧ EvM d 89 [.ref a, x1, x0] h (konN (d + 1) 138 33 [l0, l1, l2] [] Q)) := en_virtualN mm138 dX6_zone_30 (by decide +kernel : ml _ _ = some (2, 89)) (by decide) (rfl : mtab[89]? = some _) (by decide +kernel : npar _ = 2) rfl (by decide) rfl (of_decide_eq_true rfl) (len_cat (of_decide_eq_true rfl)) rfl rfl rfl
theorem i138_33 {d l0 l1 l2 t x h Q} : Ev d 138 33 [l0, l1, l2] (.int x :: t) h Q = if x = 0 then Ev d 138 38 [l0, l1, l2] t h Q else Ev d 138 36 [l0, l1, l2] t h Q := en_if_eq mm138 dX6_zone_33 rfl
theorem i138_36 {d l0 l1 l2 t h Q} : Ev d 138 36 [l0, l1, l2] t h Q = Ev d 138 37 [l0, l1, l2] (.int 0 :: t) h Q := en_iconst mm138 dX6_zone_36 (by decide)
theorem i138_37 {d l0 l1 l2 x h Q} : Ev d 138 37 [l0, l1, l2] [.int x] h Q = Q (.inl (some (.int x))) h := en_ireturnI mm138 dX6_zone_37 rfl
theorem i138_38 {d l0 l1 t x h Q} : Ev d 138 38 [l0, l1, some (.int x)] t h Q = Ev d 138 39 [l0, l1, some (.int x)] (.int x :: t) h Q := en_iload_n mm138 dX6_zone_38 rfl
theorem i138_39 {d l0 l1 l2 t h Q} : Ev d 138 39 [l0, l1, l2] t h Q = Ev d 138 41 [l0, l1, l2] (.int 6 :: t) h Q := en_bipush mm138 dX6_zone_39 (by decide)
theorem i138_41 {d l0 l1 l2 t x y h Q} : Ev d 138 41 [l0, l1, l2] (.int y :: .int x :: t) h Q = if x = y then Ev d 138 44 [l0, l1, l2] t h Q else Ev d 138 52 [l0, l1, l2] t h Q := en_ic_ne mm138 dX6_zone_41 rfl
theorem i138_44 {d a l1 l2 t h Q} : Ev d 138 44 [some (.ref a), l1, l2] t h Q = Ev d 138 45 [some (.ref a), l1, l2] (.ref a :: t) h Q := en_aload_n mm138 dX6_zone_44 rfl
theorem i138_45 {d l0 l2 t x h Q} : Ev d 138 45 [l0, some (.int x), l2] t h Q = Ev d 138 46 [l0, some (.int x), l2] (.int x :: t) h Q := en_iload_n mm138 dX6_zone_45 rfl
theorem i138_46 {d a l0 l1 l2 x0 h Q} : Ev (d + 1) 138 46 [l0, l1, l2] [x0, .ref a] h Q = (hk h a = 7 ∧ EvM d 116 [.ref a, x0] h (konN (d + 1) 138 49 [l0, l1, l2] [] Q)) := en_virtualN mm138 dX6_zone_46 (by decide +kernel : ml _ _ = some (2, 116)) (by decide) (rfl : mtab[116]? = some _) (by decide +kernel : npar _ = 1) rfl (by decide) rfl (of_decide_eq_true rfl) (len_cat (of_decide_eq_true rfl)) rfl rfl rfl
theorem i138_49 {d l0 l1 l2 t h Q} : Ev d 138 49 [l0, l1, l2] t h Q = Ev d 138 63 [l0, l1, l2] t h Q := en_goto mm138 dX6_zone_49 rfl
theorem i138_52 {d a l1 l2 t h Q} : Ev d 138 52 [some (.ref a), l1, l2] t h Q = Ev d 138 53 [some (.ref a), l1, l2] (.ref a :: t) h Q := en_aload_n mm138 dX6_zone_52 rfl
theorem i138_53 {d a l0 l1 l2 t h Q} : Ev d 138 53 [l0, l1, l2] (.ref a :: t) h Q = (hk h a = 7 ∧ Ev d 138 56 [l0, l1, l2] (hF h a 8 :: t) h Q) := en_getfield mm138 dX6_zone_53 (by decide +kernel)
theorem i138_56 {d l0 l2 t x h Q} : Ev d 138 56 [l0, some (.int x), l2] t h Q = Ev d 138 57 [l0, some (.int x), l2] (.int x :: t) h Q := en_iload_n mm138 dX6_zone_56 rfl
theorem i138_57 {d l0 l1 l2 x0 x1 h Q} : Ev (d + 1) 138 57 [l0, l1, l2] [x0, x1] h Q = EvM d 94 [x0] h (konN (d + 1) 138 60 [l0, l1, l2] [x1] Q) := en_staticN mm138 dX6_zone_57 (by decide +kernel : ml _ _ = some (0, 94)) (by decide) (rfl : mtab[94]? = some _) (by decide +kernel : npar _ = 1) (of_decide_eq_true rfl) (len_cat (of_decide_eq_true rfl)) rfl rfl rfl
theorem i138_60 {d l0 l1 t x h Q} : Ev d 138 60 [l0, l1, some (.int x)] t h Q = Ev d 138 61 [l0, l1, some (.int x)] (.int x :: t) h Q := en_iload_n mm138 dX6_zone_60 rfl
theorem i138_61 {d l0 l1 l2 t x y h Q} : Ev d 138 61 [l0, l1, l2] (.int y :: .int x :: t) h Q = Ev d 138 62 [l0, l1, l2] (.int (x + y) :: t) h Q := en_iadd mm138 dX6_zone_61
theorem i138_62 {d a j l0 l1 l2 t h Q} : Ev d 138 62 [l0, l1, l2] (.int j :: .ref a :: t) h Q = (hk h a = 10 ∧ inb j (hl h a) ∧ Ev d 138 63 [l0, l1, l2] (.int (hA h a j.toNatClampNeg) :: t) h Q) := en_iaload mm138 dX6_zone_62
theorem i138_63 {d l0 l1 l2 x h Q} : Ev d 138 63 [l0, l1, l2] [.int x] h Q = Q (.inl (some (.int x))) h := en_ireturnI mm138 dX6_zone_63 rfl
abbrev em139 : MI := (yX6_thickness, cX6_thickness, 2, some .int, 6, [])
theorem mm139 : mtab[139]? = some em139 := rfl
theorem in139 {d : Nat} {h : AH} {K : AO → AH → Prop} {v0 : Nat} {v1 : Int32} : EvM d 139 [(.ref v0), (.int v1)] h K = Ev d 139 0 [some (.ref v0), some (.int v1)] [] h K := evm_in mm139 (of_decide_eq_true rfl) rfl
theorem i139_0 {d a l1 t h Q} : Ev d 139 0 [some (.ref a), l1] t h Q = Ev d 139 1 [some (.ref a), l1] (.ref a :: t) h Q := en_aload_n mm139 dX6_thickness_0 rfl
theorem i139_1 {d l0 l1 t h Q} : Ev d 139 1 [l0, l1] t h Q = Ev d 139 2 [l0, l1] (.int 0 :: t) h Q := en_iconst mm139 dX6_thickness_1 (by decide)
theorem i139_2 {d a l0 l1 t x h Q} : Ev d 139 2 [l0, l1] (.int x :: .ref a :: t) h Q = (hk h a = 7 ∧ Ev d 139 5 [l0, l1] t (wF h a 0 (.int x)) Q) := en_putfield mm139 dX6_thickness_2 (by decide +kernel) rfl
theorem i139_5 {d a l1 t h Q} : Ev d 139 5 [some (.ref a), l1] t h Q = Ev d 139 6 [some (.ref a), l1] (.ref a :: t) h Q := en_aload_n mm139 dX6_thickness_5 rfl
theorem i139_6 {d l0 t x h Q} : Ev d 139 6 [l0, some (.int x)] t h Q = Ev d 139 7 [l0, some (.int x)] (.int x :: t) h Q := en_iload_n mm139 dX6_thickness_6 rfl
theorem i139_7 {d a l0 l1 x0 h Q} : Ev (d + 1) 139 7 [l0, l1] [x0, .ref a] h Q = (hk h a = 7 ∧ EvM d 132 [.ref a, x0] h (konN (d + 1) 139 10 [l0, l1] [] Q)) := en_virtualN mm139 dX6_thickness_7 (by decide +kernel : ml _ _ = some (2, 132)) (by decide) (rfl : mtab[132]? = some _) (by decide +kernel : npar _ = 1) rfl (by decide) rfl (of_decide_eq_true rfl) (len_cat (of_decide_eq_true rfl)) rfl rfl rfl
theorem i139_10 {d l0 l1 t x h Q} : Ev d 139 10 [l0, l1] (.int x :: t) h Q = if x = 0 then Ev d 139 17 [l0, l1] t h Q else Ev d 139 13 [l0, l1] t h Q := en_if_eq mm139 dX6_thickness_10 rfl
theorem i139_13 {d l0 l1 t h Q} : Ev d 139 13 [l0, l1] t h Q = Ev d 139 14 [l0, l1] (.int 0 :: t) h Q := en_iconst mm139 dX6_thickness_13 (by decide)
theorem i139_14 {d l0 l1 t h Q} : Ev d 139 14 [l0, l1] t h Q = Ev d 139 22 [l0, l1] t h Q := en_goto mm139 dX6_thickness_14 rfl
theorem i139_17 {d a l1 t h Q} : Ev d 139 17 [some (.ref a), l1] t h Q = Ev d 139 18 [some (.ref a), l1] (.ref a :: t) h Q := en_aload_n mm139 dX6_thickness_17 rfl
theorem i139_18 {d l0 t x h Q} : Ev d 139 18 [l0, some (.int x)] t h Q = Ev d 139 19 [l0, some (.int x)] (.int x :: t) h Q := en_iload_n mm139 dX6_thickness_18 rfl
theorem i139_19 {d a l0 l1 x0 h Q} : Ev (d + 1) 139 19 [l0, l1] [x0, .ref a] h Q = (hk h a = 7 ∧ EvM d 121 [.ref a, x0] h (konN (d + 1) 139 22 [l0, l1] [] Q)) := en_virtualN mm139 dX6_thickness_19 (by decide +kernel : ml _ _ = some (2, 121)) (by decide) (rfl : mtab[121]? = some _) (by decide +kernel : npar _ = 1) rfl (by decide) rfl (of_decide_eq_true rfl) (len_cat (of_decide_eq_true rfl)) rfl rfl rfl
theorem i139_22 {d l0 l1 x h Q} : Ev d 139 22 [l0, l1] [.int x] h Q = Q (.inl (some (.int x))) h := en_ireturnI mm139 dX6_thickness_22 rfl
abbrev em140 : MI := (yX6_temperature, cX6_temperature, 2, some .int, 6, [])
theorem mm140 : mtab[140]? = some em140 := rfl
theorem in140 {d : Nat} {h : AH} {K : AO → AH → Prop} {v0 : Nat} {v1 : Int32} : EvM d 140 [(.ref v0), (.int v1)] h K = Ev d 140 0 [some (.ref v0), some (.int v1)] [] h K := evm_in mm140 (of_decide_eq_true rfl) rfl
theorem i140_0 {d a l1 t h Q} : Ev d 140 0 [some (.ref a), l1] t h Q = Ev d 140 1 [some (.ref a), l1] (.ref a :: t) h Q := en_aload_n mm140 dX6_temperature_0 rfl
theorem i140_1 {d l0 l1 t h Q} : Ev d 140 1 [l0, l1] t h Q = Ev d 140 2 [l0, l1] (.int 0 :: t) h Q := en_iconst mm140 dX6_temperature_1 (by decide)
theorem i140_2 {d a l0 l1 t x h Q} : Ev d 140 2 [l0, l1] (.int x :: .ref a :: t) h Q = (hk h a = 7 ∧ Ev d 140 5 [l0, l1] t (wF h a 0 (.int x)) Q) := en_putfield mm140 dX6_temperature_2 (by decide +kernel) rfl
theorem i140_5 {d a l1 t h Q} : Ev d 140 5 [some (.ref a), l1] t h Q = Ev d 140 6 [some (.ref a), l1] (.ref a :: t) h Q := en_aload_n mm140 dX6_temperature_5 rfl
theorem i140_6 {d l0 t x h Q} : Ev d 140 6 [l0, some (.int x)] t h Q = Ev d 140 7 [l0, some (.int x)] (.int x :: t) h Q := en_iload_n mm140 dX6_temperature_6 rfl
theorem i140_7 {d a l0 l1 x0 h Q} : Ev (d + 1) 140 7 [l0, l1] [x0, .ref a] h Q = (hk h a = 7 ∧ EvM d 132 [.ref a, x0] h (konN (d + 1) 140 10 [l0, l1] [] Q)) := en_virtualN mm140 dX6_temperature_7 (by decide +kernel : ml _ _ = some (2, 132)) (by decide) (rfl : mtab[132]? = some _) (by decide +kernel : npar _ = 1) rfl (by decide) rfl (of_decide_eq_true rfl) (len_cat (of_decide_eq_true rfl)) rfl rfl rfl
theorem i140_10 {d l0 l1 t x h Q} : Ev d 140 10 [l0, l1] (.int x :: t) h Q = if x = 0 then Ev d 140 17 [l0, l1] t h Q else Ev d 140 13 [l0, l1] t h Q := en_if_eq mm140 dX6_temperature_10 rfl
theorem i140_13 {d l0 l1 t h Q} : Ev d 140 13 [l0, l1] t h Q = Ev d 140 14 [l0, l1] (.int 0 :: t) h Q := en_iconst mm140 dX6_temperature_13 (by decide)
theorem i140_14 {d l0 l1 t h Q} : Ev d 140 14 [l0, l1] t h Q = Ev d 140 22 [l0, l1] t h Q := en_goto mm140 dX6_temperature_14 rfl
theorem i140_17 {d a l1 t h Q} : Ev d 140 17 [some (.ref a), l1] t h Q = Ev d 140 18 [some (.ref a), l1] (.ref a :: t) h Q := en_aload_n mm140 dX6_temperature_17 rfl
theorem i140_18 {d l0 t x h Q} : Ev d 140 18 [l0, some (.int x)] t h Q = Ev d 140 19 [l0, some (.int x)] (.int x :: t) h Q := en_iload_n mm140 dX6_temperature_18 rfl
theorem i140_19 {d a l0 l1 x0 h Q} : Ev (d + 1) 140 19 [l0, l1] [x0, .ref a] h Q = (hk h a = 7 ∧ EvM d 118 [.ref a, x0] h (konN (d + 1) 140 22 [l0, l1] [] Q)) := en_virtualN mm140 dX6_temperature_19 (by decide +kernel : ml _ _ = some (2, 118)) (by decide) (rfl : mtab[118]? = some _) (by decide +kernel : npar _ = 1) rfl (by decide) rfl (of_decide_eq_true rfl) (len_cat (of_decide_eq_true rfl)) rfl rfl rfl
theorem i140_22 {d l0 l1 x h Q} : Ev d 140 22 [l0, l1] [.int x] h Q = Q (.inl (some (.int x))) h := en_ireturnI mm140 dX6_temperature_22 rfl
abbrev em141 : MI := (yX6_state, cX6_state, 2, some .int, 6, [])
theorem mm141 : mtab[141]? = some em141 := rfl
theorem in141 {d : Nat} {h : AH} {K : AO → AH → Prop} {v0 : Nat} {v1 : Int32} : EvM d 141 [(.ref v0), (.int v1)] h K = Ev d 141 0 [some (.ref v0), some (.int v1)] [] h K := evm_in mm141 (of_decide_eq_true rfl) rfl
theorem i141_0 {d a l1 t h Q} : Ev d 141 0 [some (.ref a), l1] t h Q = Ev d 141 1 [some (.ref a), l1] (.ref a :: t) h Q := en_aload_n mm141 dX6_state_0 rfl
theorem i141_1 {d l0 l1 t h Q} : Ev d 141 1 [l0, l1] t h Q = Ev d 141 2 [l0, l1] (.int 0 :: t) h Q := en_iconst mm141 dX6_state_1 (by decide)
theorem i141_2 {d a l0 l1 t x h Q} : Ev d 141 2 [l0, l1] (.int x :: .ref a :: t) h Q = (hk h a = 7 ∧ Ev d 141 5 [l0, l1] t (wF h a 0 (.int x)) Q) := en_putfield mm141 dX6_state_2 (by decide +kernel) rfl
theorem i141_5 {d a l1 t h Q} : Ev d 141 5 [some (.ref a), l1] t h Q = Ev d 141 6 [some (.ref a), l1] (.ref a :: t) h Q := en_aload_n mm141 dX6_state_5 rfl
theorem i141_6 {d l0 t x h Q} : Ev d 141 6 [l0, some (.int x)] t h Q = Ev d 141 7 [l0, some (.int x)] (.int x :: t) h Q := en_iload_n mm141 dX6_state_6 rfl
theorem i141_7 {d a l0 l1 x0 h Q} : Ev (d + 1) 141 7 [l0, l1] [x0, .ref a] h Q = (hk h a = 7 ∧ EvM d 132 [.ref a, x0] h (konN (d + 1) 141 10 [l0, l1] [] Q)) := en_virtualN mm141 dX6_state_7 (by decide +kernel : ml _ _ = some (2, 132)) (by decide) (rfl : mtab[132]? = some _) (by decide +kernel : npar _ = 1) rfl (by decide) rfl (of_decide_eq_true rfl) (len_cat (of_decide_eq_true rfl)) rfl rfl rfl
theorem i141_10 {d l0 l1 t x h Q} : Ev d 141 10 [l0, l1] (.int x :: t) h Q = if x = 0 then Ev d 141 17 [l0, l1] t h Q else Ev d 141 13 [l0, l1] t h Q := en_if_eq mm141 dX6_state_10 rfl
theorem i141_13 {d l0 l1 t h Q} : Ev d 141 13 [l0, l1] t h Q = Ev d 141 14 [l0, l1] (.int 0 :: t) h Q := en_iconst mm141 dX6_state_13 (by decide)
theorem i141_14 {d l0 l1 t h Q} : Ev d 141 14 [l0, l1] t h Q = Ev d 141 22 [l0, l1] t h Q := en_goto mm141 dX6_state_14 rfl
theorem i141_17 {d a l1 t h Q} : Ev d 141 17 [some (.ref a), l1] t h Q = Ev d 141 18 [some (.ref a), l1] (.ref a :: t) h Q := en_aload_n mm141 dX6_state_17 rfl
theorem i141_18 {d l0 t x h Q} : Ev d 141 18 [l0, some (.int x)] t h Q = Ev d 141 19 [l0, some (.int x)] (.int x :: t) h Q := en_iload_n mm141 dX6_state_18 rfl
theorem i141_19 {d a l0 l1 x0 h Q} : Ev (d + 1) 141 19 [l0, l1] [x0, .ref a] h Q = (hk h a = 7 ∧ EvM d 119 [.ref a, x0] h (konN (d + 1) 141 22 [l0, l1] [] Q)) := en_virtualN mm141 dX6_state_19 (by decide +kernel : ml _ _ = some (2, 119)) (by decide) (rfl : mtab[119]? = some _) (by decide +kernel : npar _ = 1) rfl (by decide) rfl (of_decide_eq_true rfl) (len_cat (of_decide_eq_true rfl)) rfl rfl rfl
theorem i141_22 {d l0 l1 x h Q} : Ev d 141 22 [l0, l1] [.int x] h Q = Q (.inl (some (.int x))) h := en_ireturnI mm141 dX6_state_22 rfl
abbrev em142 : MI := (yX6_quenched, cX6_quenched, 1, some .int, 6, [])
theorem mm142 : mtab[142]? = some em142 := rfl
theorem in142 {d : Nat} {h : AH} {K : AO → AH → Prop} {v0 : Nat} : EvM d 142 [(.ref v0)] h K = Ev d 142 0 [some (.ref v0)] [] h K := evm_in mm142 (of_decide_eq_true rfl) rfl
theorem i142_0 {d a t h Q} : Ev d 142 0 [some (.ref a)] t h Q = Ev d 142 1 [some (.ref a)] (.ref a :: t) h Q := en_aload_n mm142 dX6_quenched_0 rfl
theorem i142_1 {d l0 t h Q} : Ev d 142 1 [l0] t h Q = Ev d 142 2 [l0] (.int 0 :: t) h Q := en_iconst mm142 dX6_quenched_1 (by decide)
theorem i142_2 {d a l0 t x h Q} : Ev d 142 2 [l0] (.int x :: .ref a :: t) h Q = (hk h a = 7 ∧ Ev d 142 5 [l0] t (wF h a 0 (.int x)) Q) := en_putfield mm142 dX6_quenched_2 (by decide +kernel) rfl
theorem i142_5 {d a t h Q} : Ev d 142 5 [some (.ref a)] t h Q = Ev d 142 6 [some (.ref a)] (.ref a :: t) h Q := en_aload_n mm142 dX6_quenched_5 rfl
theorem i142_6 {d a l0 t h Q} : Ev d 142 6 [l0] (.ref a :: t) h Q = (hk h a = 7 ∧ Ev d 142 9 [l0] (hF h a 8 :: t) h Q) := en_getfield mm142 dX6_quenched_6 (by decide +kernel)
theorem i142_9 {d l0 t h Q} : Ev d 142 9 [l0] t h Q = Ev d 142 10 [l0] (.int 5 :: t) h Q := en_iconst mm142 dX6_quenched_9 (by decide)
theorem i142_10 {d a j l0 t h Q} : Ev d 142 10 [l0] (.int j :: .ref a :: t) h Q = (hk h a = 10 ∧ inb j (hl h a) ∧ Ev d 142 11 [l0] (.int (hA h a j.toNatClampNeg) :: t) h Q) := en_iaload mm142 dX6_quenched_10
theorem i142_11 {d l0 t h Q} : Ev d 142 11 [l0] t h Q = Ev d 142 12 [l0] (.int 1 :: t) h Q := en_iconst mm142 dX6_quenched_11 (by decide)
theorem i142_12 {d l0 t x y h Q} : Ev d 142 12 [l0] (.int y :: .int x :: t) h Q = Ev d 142 13 [l0] (.int (x - y) :: t) h Q := en_isub mm142 dX6_quenched_12
theorem i142_13 {d l0 x h Q} : Ev d 142 13 [l0] [.int x] h Q = Q (.inl (some (.int x))) h := en_ireturnI mm142 dX6_quenched_13 rfl
abbrev em143 : MI := (yX6_leftNow, cX6_leftNow, 1, some .int, 6, [])
theorem mm143 : mtab[143]? = some em143 := rfl
theorem in143 {d : Nat} {h : AH} {K : AO → AH → Prop} {v0 : Nat} : EvM d 143 [(.ref v0)] h K = Ev d 143 0 [some (.ref v0)] [] h K := evm_in mm143 (of_decide_eq_true rfl) rfl
theorem i143_0 {d a t h Q} : Ev d 143 0 [some (.ref a)] t h Q = Ev d 143 1 [some (.ref a)] (.ref a :: t) h Q := en_aload_n mm143 dX6_leftNow_0 rfl
theorem i143_1 {d a l0 t h Q} : Ev d 143 1 [l0] (.ref a :: t) h Q = (hk h a = 7 ∧ Ev d 143 4 [l0] (hF h a 8 :: t) h Q) := en_getfield mm143 dX6_leftNow_1 (by decide +kernel)
theorem i143_4 {d l0 t h Q} : Ev d 143 4 [l0] t h Q = Ev d 143 5 [l0] (.int 5 :: t) h Q := en_iconst mm143 dX6_leftNow_4 (by decide)
theorem i143_5 {d a j l0 t h Q} : Ev d 143 5 [l0] (.int j :: .ref a :: t) h Q = (hk h a = 10 ∧ inb j (hl h a) ∧ Ev d 143 6 [l0] (.int (hA h a j.toNatClampNeg) :: t) h Q) := en_iaload mm143 dX6_leftNow_5
theorem i143_6 {d l0 t x h Q} : Ev d 143 6 [l0] (.int x :: t) h Q = if x = 0 then Ev d 143 9 [l0] t h Q else Ev d 143 13 [l0] t h Q := en_if_ne mm143 dX6_leftNow_6 rfl
theorem i143_9 {d l0 t h Q} : Ev d 143 9 [l0] t h Q = Ev d 143 10 [l0] (.int 0 :: t) h Q := en_iconst mm143 dX6_leftNow_9 (by decide)
theorem i143_10 {d l0 t h Q} : Ev d 143 10 [l0] t h Q = Ev d 143 20 [l0] t h Q := en_goto mm143 dX6_leftNow_10 rfl
theorem i143_13 {d a t h Q} : Ev d 143 13 [some (.ref a)] t h Q = Ev d 143 14 [some (.ref a)] (.ref a :: t) h Q := en_aload_n mm143 dX6_leftNow_13 rfl
theorem i143_14 {d a l0 t h Q} : Ev d 143 14 [l0] (.ref a :: t) h Q = (hk h a = 7 ∧ Ev d 143 17 [l0] (hF h a 8 :: t) h Q) := en_getfield mm143 dX6_leftNow_14 (by decide +kernel)
theorem i143_17 {d l0 t h Q} : Ev d 143 17 [l0] t h Q = Ev d 143 19 [l0] (.int 6 :: t) h Q := en_bipush mm143 dX6_leftNow_17 (by decide)
theorem i143_19 {d a j l0 t h Q} : Ev d 143 19 [l0] (.int j :: .ref a :: t) h Q = (hk h a = 10 ∧ inb j (hl h a) ∧ Ev d 143 20 [l0] (.int (hA h a j.toNatClampNeg) :: t) h Q) := en_iaload mm143 dX6_leftNow_19
theorem i143_20 {d l0 x h Q} : Ev d 143 20 [l0] [.int x] h Q = Q (.inl (some (.int x))) h := en_ireturnI mm143 dX6_leftNow_20 rfl
abbrev em144 : MI := (yX6_quenchLeft, cX6_quenchLeft, 1, some .int, 6, [])
theorem mm144 : mtab[144]? = some em144 := rfl
theorem in144 {d : Nat} {h : AH} {K : AO → AH → Prop} {v0 : Nat} : EvM d 144 [(.ref v0)] h K = Ev d 144 0 [some (.ref v0)] [] h K := evm_in mm144 (of_decide_eq_true rfl) rfl
theorem i144_0 {d a t h Q} : Ev d 144 0 [some (.ref a)] t h Q = Ev d 144 1 [some (.ref a)] (.ref a :: t) h Q := en_aload_n mm144 dX6_quenchLeft_0 rfl
theorem i144_1 {d l0 t h Q} : Ev d 144 1 [l0] t h Q = Ev d 144 2 [l0] (.int 0 :: t) h Q := en_iconst mm144 dX6_quenchLeft_1 (by decide)
theorem i144_2 {d a l0 t x h Q} : Ev d 144 2 [l0] (.int x :: .ref a :: t) h Q = (hk h a = 7 ∧ Ev d 144 5 [l0] t (wF h a 0 (.int x)) Q) := en_putfield mm144 dX6_quenchLeft_2 (by decide +kernel) rfl
theorem i144_5 {d a t h Q} : Ev d 144 5 [some (.ref a)] t h Q = Ev d 144 6 [some (.ref a)] (.ref a :: t) h Q := en_aload_n mm144 dX6_quenchLeft_5 rfl
theorem i144_6 {d a l0 h Q} : Ev (d + 1) 144 6 [l0] [.ref a] h Q = (hk h a = 7 ∧ EvM d 143 [.ref a] h (konN (d + 1) 144 9 [l0] [] Q)) := en_virtualN mm144 dX6_quenchLeft_6 (by decide +kernel : ml _ _ = some (2, 143)) (by decide) (rfl : mtab[143]? = some _) (by decide +kernel : npar _ = 0) rfl (by decide) rfl (of_decide_eq_true rfl) (len_cat (of_decide_eq_true rfl)) rfl rfl rfl
theorem i144_9 {d l0 x h Q} : Ev d 144 9 [l0] [.int x] h Q = Q (.inl (some (.int x))) h := en_ireturnI mm144 dX6_quenchLeft_9 rfl
abbrev em145 : MI := (yX6_count, cX6_count, 2, some .int, 6, [])
theorem mm145 : mtab[145]? = some em145 := rfl
theorem in145 {d : Nat} {h : AH} {K : AO → AH → Prop} {v0 : Nat} {v1 : Int32} : EvM d 145 [(.ref v0), (.int v1)] h K = Ev d 145 0 [some (.ref v0), some (.int v1)] [] h K := evm_in mm145 (of_decide_eq_true rfl) rfl
theorem i145_0 {d a l1 t h Q} : Ev d 145 0 [some (.ref a), l1] t h Q = Ev d 145 1 [some (.ref a), l1] (.ref a :: t) h Q := en_aload_n mm145 dX6_count_0 rfl
theorem i145_1 {d l0 l1 t h Q} : Ev d 145 1 [l0, l1] t h Q = Ev d 145 2 [l0, l1] (.int 0 :: t) h Q := en_iconst mm145 dX6_count_1 (by decide)
theorem i145_2 {d a l0 l1 t x h Q} : Ev d 145 2 [l0, l1] (.int x :: .ref a :: t) h Q = (hk h a = 7 ∧ Ev d 145 5 [l0, l1] t (wF h a 0 (.int x)) Q) := en_putfield mm145 dX6_count_2 (by decide +kernel) rfl
theorem i145_5 {d a l1 t h Q} : Ev d 145 5 [some (.ref a), l1] t h Q = Ev d 145 6 [some (.ref a), l1] (.ref a :: t) h Q := en_aload_n mm145 dX6_count_5 rfl
theorem i145_6 {d l0 t x h Q} : Ev d 145 6 [l0, some (.int x)] t h Q = Ev d 145 7 [l0, some (.int x)] (.int x :: t) h Q := en_iload_n mm145 dX6_count_6 rfl
theorem i145_7 {d l0 l1 t h Q} : Ev d 145 7 [l0, l1] t h Q = Ev d 145 8 [l0, l1] (.int 0 :: t) h Q := en_iconst mm145 dX6_count_7 (by decide)
theorem i145_8 {d l0 l1 t h Q} : Ev d 145 8 [l0, l1] t h Q = Ev d 145 9 [l0, l1] (.int 5 :: t) h Q := en_iconst mm145 dX6_count_8 (by decide)
theorem i145_9 {d l0 l1 x0 x1 x2 x3 h Q} : Ev (d + 1) 145 9 [l0, l1] [x0, x1, x2, x3] h Q = EvM d 90 [x2, x1, x0] h (konN (d + 1) 145 12 [l0, l1] [x3] Q) := en_staticN mm145 dX6_count_9 (by decide +kernel : ml _ _ = some (0, 90)) (by decide) (rfl : mtab[90]? = some _) (by decide +kernel : npar _ = 3) (of_decide_eq_true rfl) (len_cat (of_decide_eq_true rfl)) rfl rfl rfl
theorem i145_12 {d l0 l1 t x h Q} : Ev d 145 12 [l0, l1] (.int x :: t) h Q = if x = 0 then Ev d 145 15 [l0, l1] t h Q else Ev d 145 19 [l0, l1] t h Q := en_if_ne mm145 dX6_count_12 rfl
theorem i145_15 {d l0 l1 t h Q} : Ev d 145 15 [l0, l1] t h Q = Ev d 145 16 [l0, l1] (.int 1 :: t) h Q := en_iconst mm145 dX6_count_15 (by decide)
theorem i145_16 {d l0 l1 t h Q} : Ev d 145 16 [l0, l1] t h Q = Ev d 145 20 [l0, l1] t h Q := en_goto mm145 dX6_count_16 rfl
theorem i145_19 {d l0 l1 t h Q} : Ev d 145 19 [l0, l1] t h Q = Ev d 145 20 [l0, l1] (.int 0 :: t) h Q := en_iconst mm145 dX6_count_19 (by decide)
theorem i145_20 {d l0 l1 t h Q} : Ev d 145 20 [l0, l1] t h Q = Ev d 145 21 [l0, l1] (.int 1 :: t) h Q := en_iconst mm145 dX6_count_20 (by decide)
theorem i145_21 {d a l0 l1 x0 x1 h Q} : Ev (d + 1) 145 21 [l0, l1] [x0, x1, .ref a] h Q = (hk h a = 7 ∧ EvM d 89 [.ref a, x1, x0] h (konN (d + 1) 145 24 [l0, l1] [] Q)) := en_virtualN mm145 dX6_count_21 (by decide +kernel : ml _ _ = some (2, 89)) (by decide) (rfl : mtab[89]? = some _) (by decide +kernel : npar _ = 2) rfl (by decide) rfl (of_decide_eq_true rfl) (len_cat (of_decide_eq_true rfl)) rfl rfl rfl
theorem i145_24 {d l0 l1 t x h Q} : Ev d 145 24 [l0, l1] (.int x :: t) h Q = if x = 0 then Ev d 145 31 [l0, l1] t h Q else Ev d 145 27 [l0, l1] t h Q := en_if_eq mm145 dX6_count_24 rfl
theorem i145_27 {d l0 l1 t h Q} : Ev d 145 27 [l0, l1] t h Q = Ev d 145 28 [l0, l1] (.int 0 :: t) h Q := en_iconst mm145 dX6_count_27 (by decide)
theorem i145_28 {d l0 l1 t h Q} : Ev d 145 28 [l0, l1] t h Q = Ev d 145 36 [l0, l1] t h Q := en_goto mm145 dX6_count_28 rfl
theorem i145_31 {d a l1 t h Q} : Ev d 145 31 [some (.ref a), l1] t h Q = Ev d 145 32 [some (.ref a), l1] (.ref a :: t) h Q := en_aload_n mm145 dX6_count_31 rfl
theorem i145_32 {d l0 t x h Q} : Ev d 145 32 [l0, some (.int x)] t h Q = Ev d 145 33 [l0, some (.int x)] (.int x :: t) h Q := en_iload_n mm145 dX6_count_32 rfl
theorem i145_33 {d a l0 l1 x0 h Q} : Ev (d + 1) 145 33 [l0, l1] [x0, .ref a] h Q = (hk h a = 7 ∧ EvM d 129 [.ref a, x0] h (konN (d + 1) 145 36 [l0, l1] [] Q)) := en_virtualN mm145 dX6_count_33 (by decide +kernel : ml _ _ = some (2, 129)) (by decide) (rfl : mtab[129]? = some _) (by decide +kernel : npar _ = 1) rfl (by decide) rfl (of_decide_eq_true rfl) (len_cat (of_decide_eq_true rfl)) rfl rfl rfl
theorem i145_36 {d l0 l1 x h Q} : Ev d 145 36 [l0, l1] [.int x] h Q = Q (.inl (some (.int x))) h := en_ireturnI mm145 dX6_count_36 rfl
abbrev em146 : MI := (yX6_learned, cX6_learned, 4, some .int, 6, [])
theorem mm146 : mtab[146]? = some em146 := rfl
theorem in146 {d : Nat} {h : AH} {K : AO → AH → Prop} {v0 : Nat} {v1 : Int32} {v2 : Int32} : EvM d 146 [(.ref v0), (.int v1), (.int v2)] h K = Ev d 146 0 [some (.ref v0), some (.int v1), some (.int v2), none] [] h K := evm_in mm146 (of_decide_eq_true rfl) rfl
theorem i146_0 {d a l1 l2 l3 t h Q} : Ev d 146 0 [some (.ref a), l1, l2, l3] t h Q = Ev d 146 1 [some (.ref a), l1, l2, l3] (.ref a :: t) h Q := en_aload_n mm146 dX6_learned_0 rfl
theorem i146_1 {d l0 l1 l2 l3 t h Q} : Ev d 146 1 [l0, l1, l2, l3] t h Q = Ev d 146 2 [l0, l1, l2, l3] (.int 0 :: t) h Q := en_iconst mm146 dX6_learned_1 (by decide)
theorem i146_2 {d a l0 l1 l2 l3 t x h Q} : Ev d 146 2 [l0, l1, l2, l3] (.int x :: .ref a :: t) h Q = (hk h a = 7 ∧ Ev d 146 5 [l0, l1, l2, l3] t (wF h a 0 (.int x)) Q) := en_putfield mm146 dX6_learned_2 (by decide +kernel) rfl
theorem i146_5 {d a l1 l2 l3 t h Q} : Ev d 146 5 [some (.ref a), l1, l2, l3] t h Q = Ev d 146 6 [some (.ref a), l1, l2, l3] (.ref a :: t) h Q := en_aload_n mm146 dX6_learned_5 rfl
theorem i146_6 {d l0 l2 l3 t x h Q} : Ev d 146 6 [l0, some (.int x), l2, l3] t h Q = Ev d 146 7 [l0, some (.int x), l2, l3] (.int x :: t) h Q := en_iload_n mm146 dX6_learned_6 rfl
theorem i146_7 {d a l0 l1 l2 l3 x0 h Q} : Ev (d + 1) 146 7 [l0, l1, l2, l3] [x0, .ref a] h Q = (hk h a = 7 ∧ EvM d 133 [.ref a, x0] h (konN (d + 1) 146 10 [l0, l1, l2, l3] [] Q)) := en_virtualN mm146 dX6_learned_7 (by decide +kernel : ml _ _ = some (2, 133)) (by decide) (rfl : mtab[133]? = some _) (by decide +kernel : npar _ = 1) rfl (by decide) rfl (of_decide_eq_true rfl) (len_cat (of_decide_eq_true rfl)) rfl rfl rfl
theorem i146_10 {d l0 l1 l2 l3 t x h Q} : Ev d 146 10 [l0, l1, l2, l3] (.int x :: t) h Q = if x = 0 then Ev d 146 13 [l0, l1, l2, l3] t h Q else Ev d 146 35 [l0, l1, l2, l3] t h Q := en_if_ne mm146 dX6_learned_10 rfl
theorem i146_13 {d a l1 l2 l3 t h Q} : Ev d 146 13 [some (.ref a), l1, l2, l3] t h Q = Ev d 146 14 [some (.ref a), l1, l2, l3] (.ref a :: t) h Q := en_aload_n mm146 dX6_learned_13 rfl
theorem i146_14 {d l0 l1 l3 t x h Q} : Ev d 146 14 [l0, l1, some (.int x), l3] t h Q = Ev d 146 15 [l0, l1, some (.int x), l3] (.int x :: t) h Q := en_iload_n mm146 dX6_learned_14 rfl
theorem i146_15 {d l0 l1 l2 l3 t h Q} : Ev d 146 15 [l0, l1, l2, l3] t h Q = Ev d 146 16 [l0, l1, l2, l3] (.int 0 :: t) h Q := en_iconst mm146 dX6_learned_15 (by decide)
theorem i146_16 {d l0 l1 l2 l3 t h Q} : Ev d 146 16 [l0, l1, l2, l3] t h Q = Ev d 146 17 [l0, l1, l2, l3] (.int 5 :: t) h Q := en_iconst mm146 dX6_learned_16 (by decide)
theorem i146_17 {d l0 l1 l2 l3 x0 x1 x2 x3 h Q} : Ev (d + 1) 146 17 [l0, l1, l2, l3] [x0, x1, x2, x3] h Q = EvM d 90 [x2, x1, x0] h (konN (d + 1) 146 20 [l0, l1, l2, l3] [x3] Q) := en_staticN mm146 dX6_learned_17 (by decide +kernel : ml _ _ = some (0, 90)) (by decide) (rfl : mtab[90]? = some _) (by decide +kernel : npar _ = 3) (of_decide_eq_true rfl) (len_cat (of_decide_eq_true rfl)) rfl rfl rfl
theorem i146_20 {d l0 l1 l2 l3 t x h Q} : Ev d 146 20 [l0, l1, l2, l3] (.int x :: t) h Q = if x = 0 then Ev d 146 23 [l0, l1, l2, l3] t h Q else Ev d 146 27 [l0, l1, l2, l3] t h Q := en_if_ne mm146 dX6_learned_20 rfl
theorem i146_23 {d l0 l1 l2 l3 t h Q} : Ev d 146 23 [l0, l1, l2, l3] t h Q = Ev d 146 24 [l0, l1, l2, l3] (.int 1 :: t) h Q := en_iconst mm146 dX6_learned_23 (by decide)
theorem i146_24 {d l0 l1 l2 l3 t h Q} : Ev d 146 24 [l0, l1, l2, l3] t h Q = Ev d 146 28 [l0, l1, l2, l3] t h Q := en_goto mm146 dX6_learned_24 rfl
theorem i146_27 {d l0 l1 l2 l3 t h Q} : Ev d 146 27 [l0, l1, l2, l3] t h Q = Ev d 146 28 [l0, l1, l2, l3] (.int 0 :: t) h Q := en_iconst mm146 dX6_learned_27 (by decide)
theorem i146_28 {d l0 l1 l2 l3 t h Q} : Ev d 146 28 [l0, l1, l2, l3] t h Q = Ev d 146 29 [l0, l1, l2, l3] (.int 1 :: t) h Q := en_iconst mm146 dX6_learned_28 (by decide)
theorem i146_29 {d a l0 l1 l2 l3 x0 x1 h Q} : Ev (d + 1) 146 29 [l0, l1, l2, l3] [x0, x1, .ref a] h Q = (hk h a = 7 ∧ EvM d 89 [.ref a, x1, x0] h (konN (d + 1) 146 32 [l0, l1, l2, l3] [] Q)) := en_virtualN mm146 dX6_learned_29 (by decide +kernel : ml _ _ = some (2, 89)) (by decide) (rfl : mtab[89]? = some _) (by decide +kernel : npar _ = 2) rfl (by decide) rfl (of_decide_eq_true rfl) (len_cat (of_decide_eq_true rfl)) rfl rfl rfl
theorem i146_32 {d l0 l1 l2 l3 t x h Q} : Ev d 146 32 [l0, l1, l2, l3] (.int x :: t) h Q = if x = 0 then Ev d 146 37 [l0, l1, l2, l3] t h Q else Ev d 146 35 [l0, l1, l2, l3] t h Q := en_if_eq mm146 dX6_learned_32 rfl
theorem i146_35 {d l0 l1 l2 l3 t h Q} : Ev d 146 35 [l0, l1, l2, l3] t h Q = Ev d 146 36 [l0, l1, l2, l3] (.int 0 :: t) h Q := en_iconst mm146 dX6_learned_35 (by decide)
theorem i146_36 {d l0 l1 l2 l3 x h Q} : Ev d 146 36 [l0, l1, l2, l3] [.int x] h Q = Q (.inl (some (.int x))) h := en_ireturnI mm146 dX6_learned_36 rfl
theorem i146_37 {d l0 l2 l3 t x h Q} : Ev d 146 37 [l0, some (.int x), l2, l3] t h Q = Ev d 146 38 [l0, some (.int x), l2, l3] (.int x :: t) h Q := en_iload_n mm146 dX6_learned_37 rfl
theorem i146_38 {d l0 l1 l2 l3 x0 h Q} : Ev (d + 1) 146 38 [l0, l1, l2, l3] [x0] h Q = EvM d 96 [x0] h (konN (d + 1) 146 41 [l0, l1, l2, l3] [] Q) := en_staticN mm146 dX6_learned_38 (by decide +kernel : ml _ _ = some (0, 96)) (by decide) (rfl : mtab[96]? = some _) (by decide +kernel : npar _ = 1) (of_decide_eq_true rfl) (len_cat (of_decide_eq_true rfl)) rfl rfl rfl
theorem i146_41 {d l0 l1 l2 l3 t x h Q} : Ev d 146 41 [l0, l1, l2, l3] (.int x :: t) h Q = Ev d 146 42 [l0, l1, nl l2, some (.int x)] t h Q := en_istore_n mm146 dX6_learned_41 (of_decide_eq_true rfl) rfl
theorem i146_42 {d l0 l1 l3 t x h Q} : Ev d 146 42 [l0, l1, some (.int x), l3] t h Q = Ev d 146 43 [l0, l1, some (.int x), l3] (.int x :: t) h Q := en_iload_n mm146 dX6_learned_42 rfl
theorem i146_43 {d l0 l1 l2 l3 t h Q} : Ev d 146 43 [l0, l1, l2, l3] t h Q = Ev d 146 44 [l0, l1, l2, l3] (.int 3 :: t) h Q := en_iconst mm146 dX6_learned_43 (by decide)
theorem i146_44 {d l0 l1 l2 l3 t x y h Q} : Ev d 146 44 [l0, l1, l2, l3] (.int y :: .int x :: t) h Q = if x ≤ y then Ev d 146 63 [l0, l1, l2, l3] t h Q else Ev d 146 47 [l0, l1, l2, l3] t h Q := en_ic_le mm146 dX6_learned_44 rfl
theorem i146_47 {d a l1 l2 l3 t h Q} : Ev d 146 47 [some (.ref a), l1, l2, l3] t h Q = Ev d 146 48 [some (.ref a), l1, l2, l3] (.ref a :: t) h Q := en_aload_n mm146 dX6_learned_47 rfl
theorem i146_48 {d a l0 l1 l2 l3 t h Q} : Ev d 146 48 [l0, l1, l2, l3] (.ref a :: t) h Q = (hk h a = 7 ∧ Ev d 146 51 [l0, l1, l2, l3] (hF h a 8 :: t) h Q) := en_getfield mm146 dX6_learned_48 (by decide +kernel)
theorem i146_51 {d l0 l1 l2 t x h Q} : Ev d 146 51 [l0, l1, l2, some (.int x)] t h Q = Ev d 146 52 [l0, l1, l2, some (.int x)] (.int x :: t) h Q := en_iload_n mm146 dX6_learned_51 rfl
theorem i146_52 {d l0 l1 l2 l3 t h Q} : Ev d 146 52 [l0, l1, l2, l3] t h Q = Ev d 146 54 [l0, l1, l2, l3] (.int 6 :: t) h Q := en_bipush mm146 dX6_learned_52 (by decide)
theorem i146_54 {d l0 l1 l2 l3 t x y h Q} : Ev d 146 54 [l0, l1, l2, l3] (.int y :: .int x :: t) h Q = Ev d 146 55 [l0, l1, l2, l3] (.int (x + y) :: t) h Q := en_iadd mm146 dX6_learned_54
theorem i146_55 {d a j l0 l1 l2 l3 t h Q} : Ev d 146 55 [l0, l1, l2, l3] (.int j :: .ref a :: t) h Q = (hk h a = 10 ∧ inb j (hl h a) ∧ Ev d 146 56 [l0, l1, l2, l3] (.int (hA h a j.toNatClampNeg) :: t) h Q) := en_iaload mm146 dX6_learned_55
theorem i146_56 {d l0 l1 l2 l3 t x h Q} : Ev d 146 56 [l0, l1, l2, l3] (.int x :: t) h Q = if x = 0 then Ev d 146 59 [l0, l1, l2, l3] t h Q else Ev d 146 63 [l0, l1, l2, l3] t h Q := en_if_ne mm146 dX6_learned_56 rfl
theorem i146_59 {d l0 l1 l2 l3 t h Q} : Ev d 146 59 [l0, l1, l2, l3] t h Q = Ev d 146 60 [l0, l1, l2, l3] (.int (-1) :: t) h Q := en_iconst mm146 dX6_learned_59 (by decide)
theorem i146_60 {d l0 l1 l2 l3 t h Q} : Ev d 146 60 [l0, l1, l2, l3] t h Q = Ev d 146 71 [l0, l1, l2, l3] t h Q := en_goto mm146 dX6_learned_60 rfl
theorem i146_63 {d a l1 l2 l3 t h Q} : Ev d 146 63 [some (.ref a), l1, l2, l3] t h Q = Ev d 146 64 [some (.ref a), l1, l2, l3] (.ref a :: t) h Q := en_aload_n mm146 dX6_learned_63 rfl
theorem i146_64 {d a l0 l1 l2 l3 t h Q} : Ev d 146 64 [l0, l1, l2, l3] (.ref a :: t) h Q = (hk h a = 7 ∧ Ev d 146 67 [l0, l1, l2, l3] (hF h a 8 :: t) h Q) := en_getfield mm146 dX6_learned_64 (by decide +kernel)
theorem i146_67 {d l0 l1 l2 t x h Q} : Ev d 146 67 [l0, l1, l2, some (.int x)] t h Q = Ev d 146 68 [l0, l1, l2, some (.int x)] (.int x :: t) h Q := en_iload_n mm146 dX6_learned_67 rfl
theorem i146_68 {d l0 l1 l3 t x h Q} : Ev d 146 68 [l0, l1, some (.int x), l3] t h Q = Ev d 146 69 [l0, l1, some (.int x), l3] (.int x :: t) h Q := en_iload_n mm146 dX6_learned_68 rfl
theorem i146_69 {d l0 l1 l2 l3 t x y h Q} : Ev d 146 69 [l0, l1, l2, l3] (.int y :: .int x :: t) h Q = Ev d 146 70 [l0, l1, l2, l3] (.int (x + y) :: t) h Q := en_iadd mm146 dX6_learned_69
theorem i146_70 {d a j l0 l1 l2 l3 t h Q} : Ev d 146 70 [l0, l1, l2, l3] (.int j :: .ref a :: t) h Q = (hk h a = 10 ∧ inb j (hl h a) ∧ Ev d 146 71 [l0, l1, l2, l3] (.int (hA h a j.toNatClampNeg) :: t) h Q) := en_iaload mm146 dX6_learned_70
theorem i146_71 {d l0 l1 l2 l3 x h Q} : Ev d 146 71 [l0, l1, l2, l3] [.int x] h Q = Q (.inl (some (.int x))) h := en_ireturnI mm146 dX6_learned_71 rfl
abbrev em147 : MI := (yX6_risk, cX6_risk, 5, some .int, 6, [])
theorem mm147 : mtab[147]? = some em147 := rfl
theorem in147 {d : Nat} {h : AH} {K : AO → AH → Prop} {v0 : Nat} {v1 : Int32} : EvM d 147 [(.ref v0), (.int v1)] h K = Ev d 147 0 [some (.ref v0), some (.int v1), none, none, none] [] h K := evm_in mm147 (of_decide_eq_true rfl) rfl
theorem i147_0 {d a l1 l2 l3 l4 t h Q} : Ev d 147 0 [some (.ref a), l1, l2, l3, l4] t h Q = Ev d 147 1 [some (.ref a), l1, l2, l3, l4] (.ref a :: t) h Q := en_aload_n mm147 dX6_risk_0 rfl
theorem i147_1 {d l0 l1 l2 l3 l4 t h Q} : Ev d 147 1 [l0, l1, l2, l3, l4] t h Q = Ev d 147 2 [l0, l1, l2, l3, l4] (.int 0 :: t) h Q := en_iconst mm147 dX6_risk_1 (by decide)
theorem i147_2 {d a l0 l1 l2 l3 l4 t x h Q} : Ev d 147 2 [l0, l1, l2, l3, l4] (.int x :: .ref a :: t) h Q = (hk h a = 7 ∧ Ev d 147 5 [l0, l1, l2, l3, l4] t (wF h a 0 (.int x)) Q) := en_putfield mm147 dX6_risk_2 (by decide +kernel) rfl
theorem i147_5 {d a l1 l2 l3 l4 t h Q} : Ev d 147 5 [some (.ref a), l1, l2, l3, l4] t h Q = Ev d 147 6 [some (.ref a), l1, l2, l3, l4] (.ref a :: t) h Q := en_aload_n mm147 dX6_risk_5 rfl
theorem i147_6 {d l0 l2 l3 l4 t x h Q} : Ev d 147 6 [l0, some (.int x), l2, l3, l4] t h Q = Ev d 147 7 [l0, some (.int x), l2, l3, l4] (.int x :: t) h Q := en_iload_n mm147 dX6_risk_6 rfl
theorem i147_7 {d a l0 l1 l2 l3 l4 x0 h Q} : Ev (d + 1) 147 7 [l0, l1, l2, l3, l4] [x0, .ref a] h Q = (hk h a = 7 ∧ EvM d 133 [.ref a, x0] h (konN (d + 1) 147 10 [l0, l1, l2, l3, l4] [] Q)) := en_virtualN mm147 dX6_risk_7 (by decide +kernel : ml _ _ = some (2, 133)) (by decide) (rfl : mtab[133]? = some _) (by decide +kernel : npar _ = 1) rfl (by decide) rfl (of_decide_eq_true rfl) (len_cat (of_decide_eq_true rfl)) rfl rfl rfl
theorem i147_10 {d l0 l1 l2 l3 l4 t x h Q} : Ev d 147 10 [l0, l1, l2, l3, l4] (.int x :: t) h Q = if x = 0 then Ev d 147 15 [l0, l1, l2, l3, l4] t h Q else Ev d 147 13 [l0, l1, l2, l3, l4] t h Q := en_if_eq mm147 dX6_risk_10 rfl
theorem i147_13 {d l0 l1 l2 l3 l4 t h Q} : Ev d 147 13 [l0, l1, l2, l3, l4] t h Q = Ev d 147 14 [l0, l1, l2, l3, l4] (.int 0 :: t) h Q := en_iconst mm147 dX6_risk_13 (by decide)
theorem i147_14 {d l0 l1 l2 l3 l4 x h Q} : Ev d 147 14 [l0, l1, l2, l3, l4] [.int x] h Q = Q (.inl (some (.int x))) h := en_ireturnI mm147 dX6_risk_14 rfl
theorem i147_15 {d l0 l2 l3 l4 t x h Q} : Ev d 147 15 [l0, some (.int x), l2, l3, l4] t h Q = Ev d 147 16 [l0, some (.int x), l2, l3, l4] (.int x :: t) h Q := en_iload_n mm147 dX6_risk_15 rfl
theorem i147_16 {d l0 l1 l2 l3 l4 x0 h Q} : Ev (d + 1) 147 16 [l0, l1, l2, l3, l4] [x0] h Q = EvM d 96 [x0] h (konN (d + 1) 147 19 [l0, l1, l2, l3, l4] [] Q) := en_staticN mm147 dX6_risk_16 (by decide +kernel : ml _ _ = some (0, 96)) (by decide) (rfl : mtab[96]? = some _) (by decide +kernel : npar _ = 1) (of_decide_eq_true rfl) (len_cat (of_decide_eq_true rfl)) rfl rfl rfl
theorem i147_19 {d l0 l1 l2 l3 l4 t x h Q} : Ev d 147 19 [l0, l1, l2, l3, l4] (.int x :: t) h Q = Ev d 147 20 [l0, nl l1, some (.int x), l3, l4] t h Q := en_istore_n mm147 dX6_risk_19 (of_decide_eq_true rfl) rfl
theorem i147_20 {d a l1 l2 l3 l4 t h Q} : Ev d 147 20 [some (.ref a), l1, l2, l3, l4] t h Q = Ev d 147 21 [some (.ref a), l1, l2, l3, l4] (.ref a :: t) h Q := en_aload_n mm147 dX6_risk_20 rfl
theorem i147_21 {d a l0 l1 l2 l3 l4 t h Q} : Ev d 147 21 [l0, l1, l2, l3, l4] (.ref a :: t) h Q = (hk h a = 7 ∧ Ev d 147 24 [l0, l1, l2, l3, l4] (hF h a 8 :: t) h Q) := en_getfield mm147 dX6_risk_21 (by decide +kernel)
theorem i147_24 {d l0 l1 l3 l4 t x h Q} : Ev d 147 24 [l0, l1, some (.int x), l3, l4] t h Q = Ev d 147 25 [l0, l1, some (.int x), l3, l4] (.int x :: t) h Q := en_iload_n mm147 dX6_risk_24 rfl
theorem i147_25 {d l0 l1 l2 l3 l4 t h Q} : Ev d 147 25 [l0, l1, l2, l3, l4] t h Q = Ev d 147 26 [l0, l1, l2, l3, l4] (.int 1 :: t) h Q := en_iconst mm147 dX6_risk_25 (by decide)
theorem i147_26 {d l0 l1 l2 l3 l4 t x y h Q} : Ev d 147 26 [l0, l1, l2, l3, l4] (.int y :: .int x :: t) h Q = Ev d 147 27 [l0, l1, l2, l3, l4] (.int (x + y) :: t) h Q := en_iadd mm147 dX6_risk_26
theorem i147_27 {d a j l0 l1 l2 l3 l4 t h Q} : Ev d 147 27 [l0, l1, l2, l3, l4] (.int j :: .ref a :: t) h Q = (hk h a = 10 ∧ inb j (hl h a) ∧ Ev d 147 28 [l0, l1, l2, l3, l4] (.int (hA h a j.toNatClampNeg) :: t) h Q) := en_iaload mm147 dX6_risk_27
theorem i147_28 {d a l1 l2 l3 l4 t h Q} : Ev d 147 28 [some (.ref a), l1, l2, l3, l4] t h Q = Ev d 147 29 [some (.ref a), l1, l2, l3, l4] (.ref a :: t) h Q := en_aload_n mm147 dX6_risk_28 rfl
theorem i147_29 {d a l0 l1 l2 l3 l4 t h Q} : Ev d 147 29 [l0, l1, l2, l3, l4] (.ref a :: t) h Q = (hk h a = 7 ∧ Ev d 147 32 [l0, l1, l2, l3, l4] (hF h a 8 :: t) h Q) := en_getfield mm147 dX6_risk_29 (by decide +kernel)
theorem i147_32 {d l0 l1 l3 l4 t x h Q} : Ev d 147 32 [l0, l1, some (.int x), l3, l4] t h Q = Ev d 147 33 [l0, l1, some (.int x), l3, l4] (.int x :: t) h Q := en_iload_n mm147 dX6_risk_32 rfl
theorem i147_33 {d l0 l1 l2 l3 l4 t h Q} : Ev d 147 33 [l0, l1, l2, l3, l4] t h Q = Ev d 147 34 [l0, l1, l2, l3, l4] (.int 2 :: t) h Q := en_iconst mm147 dX6_risk_33 (by decide)
theorem i147_34 {d l0 l1 l2 l3 l4 t x y h Q} : Ev d 147 34 [l0, l1, l2, l3, l4] (.int y :: .int x :: t) h Q = Ev d 147 35 [l0, l1, l2, l3, l4] (.int (x + y) :: t) h Q := en_iadd mm147 dX6_risk_34
theorem i147_35 {d a j l0 l1 l2 l3 l4 t h Q} : Ev d 147 35 [l0, l1, l2, l3, l4] (.int j :: .ref a :: t) h Q = (hk h a = 10 ∧ inb j (hl h a) ∧ Ev d 147 36 [l0, l1, l2, l3, l4] (.int (hA h a j.toNatClampNeg) :: t) h Q) := en_iaload mm147 dX6_risk_35
theorem i147_36 {d l0 l1 l2 l3 l4 t x y h Q} : Ev d 147 36 [l0, l1, l2, l3, l4] (.int y :: .int x :: t) h Q = Ev d 147 37 [l0, l1, l2, l3, l4] (.int (x + y) :: t) h Q := en_iadd mm147 dX6_risk_36
theorem i147_37 {d l0 l1 l2 l3 l4 t x h Q} : Ev d 147 37 [l0, l1, l2, l3, l4] (.int x :: t) h Q = Ev d 147 38 [l0, l1, nl l2, some (.int x), l4] t h Q := en_istore_n mm147 dX6_risk_37 (of_decide_eq_true rfl) rfl
theorem i147_38 {d l0 l1 l2 l4 t x h Q} : Ev d 147 38 [l0, l1, l2, some (.int x), l4] t h Q = Ev d 147 39 [l0, l1, l2, some (.int x), l4] (.int x :: t) h Q := en_iload_n mm147 dX6_risk_38 rfl
theorem i147_39 {d a l1 l2 l3 l4 t h Q} : Ev d 147 39 [some (.ref a), l1, l2, l3, l4] t h Q = Ev d 147 40 [some (.ref a), l1, l2, l3, l4] (.ref a :: t) h Q := en_aload_n mm147 dX6_risk_39 rfl
theorem i147_40 {d a l0 l1 l2 l3 l4 t h Q} : Ev d 147 40 [l0, l1, l2, l3, l4] (.ref a :: t) h Q = (hk h a = 7 ∧ Ev d 147 43 [l0, l1, l2, l3, l4] (hF h a 8 :: t) h Q) := en_getfield mm147 dX6_risk_40 (by decide +kernel)
theorem i147_43 {d l0 l1 l3 l4 t x h Q} : Ev d 147 43 [l0, l1, some (.int x), l3, l4] t h Q = Ev d 147 44 [l0, l1, some (.int x), l3, l4] (.int x :: t) h Q := en_iload_n mm147 dX6_risk_43 rfl
theorem i147_44 {d a j l0 l1 l2 l3 l4 t h Q} : Ev d 147 44 [l0, l1, l2, l3, l4] (.int j :: .ref a :: t) h Q = (hk h a = 10 ∧ inb j (hl h a) ∧ Ev d 147 45 [l0, l1, l2, l3, l4] (.int (hA h a j.toNatClampNeg) :: t) h Q) := en_iaload mm147 dX6_risk_44
theorem i147_45 {d l0 l1 l2 l3 l4 t x y h Q} : Ev d 147 45 [l0, l1, l2, l3, l4] (.int y :: .int x :: t) h Q = Ev d 147 46 [l0, l1, l2, l3, l4] (.int (x + y) :: t) h Q := en_iadd mm147 dX6_risk_45
theorem i147_46 {d l0 l1 l2 l3 l4 t x h Q} : Ev d 147 46 [l0, l1, l2, l3, l4] (.int x :: t) h Q = Ev d 147 48 [l0, l1, l2, nl l3, some (.int x)] t h Q := en_istore mm147 dX6_risk_46 (of_decide_eq_true rfl) rfl
theorem i147_48 {d l0 l1 l2 l3 t x h Q} : Ev d 147 48 [l0, l1, l2, l3, some (.int x)] t h Q = Ev d 147 50 [l0, l1, l2, l3, some (.int x)] (.int x :: t) h Q := en_iload mm147 dX6_risk_48 rfl
theorem i147_50 {d l0 l1 l2 l3 l4 t x h Q} : Ev d 147 50 [l0, l1, l2, l3, l4] (.int x :: t) h Q = if x = 0 then Ev d 147 53 [l0, l1, l2, l3, l4] t h Q else Ev d 147 57 [l0, l1, l2, l3, l4] t h Q := en_if_ne mm147 dX6_risk_50 rfl
theorem i147_53 {d l0 l1 l2 l3 l4 t h Q} : Ev d 147 53 [l0, l1, l2, l3, l4] t h Q = Ev d 147 54 [l0, l1, l2, l3, l4] (.int (-1) :: t) h Q := en_iconst mm147 dX6_risk_53 (by decide)
theorem i147_54 {d l0 l1 l2 l3 l4 t h Q} : Ev d 147 54 [l0, l1, l2, l3, l4] t h Q = Ev d 147 65 [l0, l1, l2, l3, l4] t h Q := en_goto mm147 dX6_risk_54 rfl
theorem i147_57 {d l0 l1 l2 l3 l4 t h Q} : Ev d 147 57 [l0, l1, l2, l3, l4] t h Q = Ev d 147 60 [l0, l1, l2, l3, l4] (.int 1000 :: t) h Q := en_sipush mm147 dX6_risk_57 (by decide)
theorem i147_60 {d l0 l1 l2 l4 t x h Q} : Ev d 147 60 [l0, l1, l2, some (.int x), l4] t h Q = Ev d 147 61 [l0, l1, l2, some (.int x), l4] (.int x :: t) h Q := en_iload_n mm147 dX6_risk_60 rfl
theorem i147_61 {d l0 l1 l2 l3 l4 t x y h Q} : Ev d 147 61 [l0, l1, l2, l3, l4] (.int y :: .int x :: t) h Q = Ev d 147 62 [l0, l1, l2, l3, l4] (.int (x * y) :: t) h Q := en_imul mm147 dX6_risk_61
theorem i147_62 {d l0 l1 l2 l3 t x h Q} : Ev d 147 62 [l0, l1, l2, l3, some (.int x)] t h Q = Ev d 147 64 [l0, l1, l2, l3, some (.int x)] (.int x :: t) h Q := en_iload mm147 dX6_risk_62 rfl
theorem i147_64 {d l0 l1 l2 l3 l4 t x y h Q} : Ev d 147 64 [l0, l1, l2, l3, l4] (.int y :: .int x :: t) h Q = (¬ y = 0 ∧ Ev d 147 65 [l0, l1, l2, l3, l4] (.int (x / y) :: t) h Q) := en_idiv mm147 dX6_risk_64
theorem i147_65 {d l0 l1 l2 l3 l4 x h Q} : Ev d 147 65 [l0, l1, l2, l3, l4] [.int x] h Q = Q (.inl (some (.int x))) h := en_ireturnI mm147 dX6_risk_65 rfl
abbrev em148 : MI := (yX6_noMeasures, cX6_noMeasures, 3, some .boolean, 6, [])
theorem mm148 : mtab[148]? = some em148 := rfl
theorem in148 {d : Nat} {h : AH} {K : AO → AH → Prop} {v0 : Nat} {v1 : Int32} {v2 : Int32} : EvM d 148 [(.ref v0), (.int v1), (.int v2)] h K = Ev d 148 0 [some (.ref v0), some (.int v1), some (.int v2)] [] h K := evm_in mm148 (of_decide_eq_true rfl) rfl
theorem i148_0 {d a l1 l2 t h Q} : Ev d 148 0 [some (.ref a), l1, l2] t h Q = Ev d 148 1 [some (.ref a), l1, l2] (.ref a :: t) h Q := en_aload_n mm148 dX6_noMeasures_0 rfl
theorem i148_1 {d l0 l2 t x h Q} : Ev d 148 1 [l0, some (.int x), l2] t h Q = Ev d 148 2 [l0, some (.int x), l2] (.int x :: t) h Q := en_iload_n mm148 dX6_noMeasures_1 rfl
theorem i148_2 {d l0 l1 l2 t h Q} : Ev d 148 2 [l0, l1, l2] t h Q = Ev d 148 3 [l0, l1, l2] (.int 1 :: t) h Q := en_iconst mm148 dX6_noMeasures_2 (by decide)
theorem i148_3 {d l0 l1 l2 t h Q} : Ev d 148 3 [l0, l1, l2] t h Q = Ev d 148 6 [l0, l1, l2] (.int 9999 :: t) h Q := en_sipush mm148 dX6_noMeasures_3 (by decide)
theorem i148_6 {d l0 l1 l2 x0 x1 x2 x3 h Q} : Ev (d + 1) 148 6 [l0, l1, l2] [x0, x1, x2, x3] h Q = EvM d 90 [x2, x1, x0] h (konN (d + 1) 148 9 [l0, l1, l2] [x3] Q) := en_staticN mm148 dX6_noMeasures_6 (by decide +kernel : ml _ _ = some (0, 90)) (by decide) (rfl : mtab[90]? = some _) (by decide +kernel : npar _ = 3) (of_decide_eq_true rfl) (len_cat (of_decide_eq_true rfl)) rfl rfl rfl
theorem i148_9 {d l0 l1 l2 t x h Q} : Ev d 148 9 [l0, l1, l2] (.int x :: t) h Q = if x = 0 then Ev d 148 23 [l0, l1, l2] t h Q else Ev d 148 12 [l0, l1, l2] t h Q := en_if_eq mm148 dX6_noMeasures_9 rfl
theorem i148_12 {d l0 l1 t x h Q} : Ev d 148 12 [l0, l1, some (.int x)] t h Q = Ev d 148 13 [l0, l1, some (.int x)] (.int x :: t) h Q := en_iload_n mm148 dX6_noMeasures_12 rfl
theorem i148_13 {d l0 l1 l2 t h Q} : Ev d 148 13 [l0, l1, l2] t h Q = Ev d 148 14 [l0, l1, l2] (.int 1 :: t) h Q := en_iconst mm148 dX6_noMeasures_13 (by decide)
theorem i148_14 {d l0 l1 l2 t h Q} : Ev d 148 14 [l0, l1, l2] t h Q = Ev d 148 17 [l0, l1, l2] (.int 9999 :: t) h Q := en_sipush mm148 dX6_noMeasures_14 (by decide)
theorem i148_17 {d l0 l1 l2 x0 x1 x2 x3 h Q} : Ev (d + 1) 148 17 [l0, l1, l2] [x0, x1, x2, x3] h Q = EvM d 90 [x2, x1, x0] h (konN (d + 1) 148 20 [l0, l1, l2] [x3] Q) := en_staticN mm148 dX6_noMeasures_17 (by decide +kernel : ml _ _ = some (0, 90)) (by decide) (rfl : mtab[90]? = some _) (by decide +kernel : npar _ = 3) (of_decide_eq_true rfl) (len_cat (of_decide_eq_true rfl)) rfl rfl rfl
theorem i148_20 {d l0 l1 l2 t x h Q} : Ev d 148 20 [l0, l1, l2] (.int x :: t) h Q = if x = 0 then Ev d 148 23 [l0, l1, l2] t h Q else Ev d 148 27 [l0, l1, l2] t h Q := en_if_ne mm148 dX6_noMeasures_20 rfl
theorem i148_23 {d l0 l1 l2 t h Q} : Ev d 148 23 [l0, l1, l2] t h Q = Ev d 148 24 [l0, l1, l2] (.int 1 :: t) h Q := en_iconst mm148 dX6_noMeasures_23 (by decide)
theorem i148_24 {d l0 l1 l2 t h Q} : Ev d 148 24 [l0, l1, l2] t h Q = Ev d 148 28 [l0, l1, l2] t h Q := en_goto mm148 dX6_noMeasures_24 rfl
theorem i148_27 {d l0 l1 l2 t h Q} : Ev d 148 27 [l0, l1, l2] t h Q = Ev d 148 28 [l0, l1, l2] (.int 0 :: t) h Q := en_iconst mm148 dX6_noMeasures_27 (by decide)
theorem i148_28 {d l0 l1 l2 t h Q} : Ev d 148 28 [l0, l1, l2] t h Q = Ev d 148 29 [l0, l1, l2] (.int 1 :: t) h Q := en_iconst mm148 dX6_noMeasures_28 (by decide)
theorem i148_29 {d a l0 l1 l2 x0 x1 h Q} : Ev (d + 1) 148 29 [l0, l1, l2] [x0, x1, .ref a] h Q = (hk h a = 7 ∧ EvM d 89 [.ref a, x1, x0] h (konN (d + 1) 148 32 [l0, l1, l2] [] Q)) := en_virtualN mm148 dX6_noMeasures_29 (by decide +kernel : ml _ _ = some (2, 89)) (by decide) (rfl : mtab[89]? = some _) (by decide +kernel : npar _ = 2) rfl (by decide) rfl (of_decide_eq_true rfl) (len_cat (of_decide_eq_true rfl)) rfl rfl rfl
theorem i148_32 {d l0 l1 l2 x h Q} : Ev d 148 32 [l0, l1, l2] [.int x] h Q = (narrow .boolean (.int x) = .int x ∧ Q (.inl (some (.int x))) h) := en_ireturn mm148 dX6_noMeasures_32 rfl
abbrev em149 : MI := (yX6_recognised, cX6_recognised, 3, some .int, 6, [])
theorem mm149 : mtab[149]? = some em149 := rfl
theorem in149 {d : Nat} {h : AH} {K : AO → AH → Prop} {v0 : Int32} {v1 : Int32} : EvM d 149 [(.int v0), (.int v1)] h K = Ev d 149 0 [some (.int v0), some (.int v1), none] [] h K := evm_in mm149 (of_decide_eq_true rfl) rfl
theorem i149_0 {d l0 l1 l2 t h Q} : Ev d 149 0 [l0, l1, l2] t h Q = Ev d 149 2 [l0, l1, l2] (.int 40 :: t) h Q := en_bipush mm149 dX6_recognised_0 (by decide)
theorem i149_2 {d l1 l2 t x h Q} : Ev d 149 2 [some (.int x), l1, l2] t h Q = Ev d 149 3 [some (.int x), l1, l2] (.int x :: t) h Q := en_iload_n mm149 dX6_recognised_2 rfl
theorem i149_3 {d l0 l1 l2 t x y h Q} : Ev d 149 3 [l0, l1, l2] (.int y :: .int x :: t) h Q = Ev d 149 4 [l0, l1, l2] (.int (x * y) :: t) h Q := en_imul mm149 dX6_recognised_3
theorem i149_4 {d l0 l2 t x h Q} : Ev d 149 4 [l0, some (.int x), l2] t h Q = Ev d 149 5 [l0, some (.int x), l2] (.int x :: t) h Q := en_iload_n mm149 dX6_recognised_4 rfl
theorem i149_5 {d l0 l1 l2 t h Q} : Ev d 149 5 [l0, l1, l2] t h Q = Ev d 149 6 [l0, l1, l2] (.int 2 :: t) h Q := en_iconst mm149 dX6_recognised_5 (by decide)
theorem i149_6 {d l0 l1 l2 t x y h Q} : Ev d 149 6 [l0, l1, l2] (.int y :: .int x :: t) h Q = (¬ y = 0 ∧ Ev d 149 7 [l0, l1, l2] (.int (x / y) :: t) h Q) := en_idiv mm149 dX6_recognised_6
theorem i149_7 {d l0 l1 l2 t x y h Q} : Ev d 149 7 [l0, l1, l2] (.int y :: .int x :: t) h Q = Ev d 149 8 [l0, l1, l2] (.int (x + y) :: t) h Q := en_iadd mm149 dX6_recognised_7
theorem i149_8 {d l0 l2 t x h Q} : Ev d 149 8 [l0, some (.int x), l2] t h Q = Ev d 149 9 [l0, some (.int x), l2] (.int x :: t) h Q := en_iload_n mm149 dX6_recognised_8 rfl
theorem i149_9 {d l0 l1 l2 t x y h Q} : Ev d 149 9 [l0, l1, l2] (.int y :: .int x :: t) h Q = (¬ y = 0 ∧ Ev d 149 10 [l0, l1, l2] (.int (x / y) :: t) h Q) := en_idiv mm149 dX6_recognised_9
theorem i149_10 {d l0 l1 l2 t x h Q} : Ev d 149 10 [l0, l1, l2] (.int x :: t) h Q = Ev d 149 11 [l0, nl l1, some (.int x)] t h Q := en_istore_n mm149 dX6_recognised_10 (of_decide_eq_true rfl) rfl
theorem i149_11 {d l0 l1 t x h Q} : Ev d 149 11 [l0, l1, some (.int x)] t h Q = Ev d 149 12 [l0, l1, some (.int x)] (.int x :: t) h Q := en_iload_n mm149 dX6_recognised_11 rfl
theorem i149_12 {d l0 l1 l2 t h Q} : Ev d 149 12 [l0, l1, l2] t h Q = Ev d 149 13 [l0, l1, l2] (.int 2 :: t) h Q := en_iconst mm149 dX6_recognised_12 (by decide)
theorem i149_13 {d l0 l1 l2 t h Q} : Ev d 149 13 [l0, l1, l2] t h Q = Ev d 149 15 [l0, l1, l2] (.int 19 :: t) h Q := en_bipush mm149 dX6_recognised_13 (by decide)
theorem i149_15 {d l0 l1 l2 x0 x1 x2 h Q} : Ev (d + 1) 149 15 [l0, l1, l2] [x0, x1, x2] h Q = EvM d 90 [x2, x1, x0] h (konN (d + 1) 149 18 [l0, l1, l2] [] Q) := en_staticN mm149 dX6_recognised_15 (by decide +kernel : ml _ _ = some (0, 90)) (by decide) (rfl : mtab[90]? = some _) (by decide +kernel : npar _ = 3) (of_decide_eq_true rfl) (len_cat (of_decide_eq_true rfl)) rfl rfl rfl
theorem i149_18 {d l0 l1 l2 t x h Q} : Ev d 149 18 [l0, l1, l2] (.int x :: t) h Q = if x = 0 then Ev d 149 25 [l0, l1, l2] t h Q else Ev d 149 21 [l0, l1, l2] t h Q := en_if_eq mm149 dX6_recognised_18 rfl
theorem i149_21 {d l0 l1 t x h Q} : Ev d 149 21 [l0, l1, some (.int x)] t h Q = Ev d 149 22 [l0, l1, some (.int x)] (.int x :: t) h Q := en_iload_n mm149 dX6_recognised_21 rfl
theorem i149_22 {d l0 l1 l2 t h Q} : Ev d 149 22 [l0, l1, l2] t h Q = Ev d 149 26 [l0, l1, l2] t h Q := en_goto mm149 dX6_recognised_22 rfl
theorem i149_25 {d l0 l1 l2 t h Q} : Ev d 149 25 [l0, l1, l2] t h Q = Ev d 149 26 [l0, l1, l2] (.int (-1) :: t) h Q := en_iconst mm149 dX6_recognised_25 (by decide)
theorem i149_26 {d l0 l1 l2 x h Q} : Ev d 149 26 [l0, l1, l2] [.int x] h Q = Q (.inl (some (.int x))) h := en_ireturnI mm149 dX6_recognised_26 rfl
abbrev em150 : MI := (yX6_recognise, cX6_recognise, 3, some .int, 6, [])
theorem mm150 : mtab[150]? = some em150 := rfl
theorem in150 {d : Nat} {h : AH} {K : AO → AH → Prop} {v0 : Nat} {v1 : Int32} {v2 : Int32} : EvM d 150 [(.ref v0), (.int v1), (.int v2)] h K = Ev d 150 0 [some (.ref v0), some (.int v1), some (.int v2)] [] h K := evm_in mm150 (of_decide_eq_true rfl) rfl
theorem i150_0 {d a l1 l2 t h Q} : Ev d 150 0 [some (.ref a), l1, l2] t h Q = Ev d 150 1 [some (.ref a), l1, l2] (.ref a :: t) h Q := en_aload_n mm150 dX6_recognise_0 rfl
theorem i150_1 {d l0 l1 l2 t h Q} : Ev d 150 1 [l0, l1, l2] t h Q = Ev d 150 2 [l0, l1, l2] (.int 0 :: t) h Q := en_iconst mm150 dX6_recognise_1 (by decide)
theorem i150_2 {d a l0 l1 l2 t x h Q} : Ev d 150 2 [l0, l1, l2] (.int x :: .ref a :: t) h Q = (hk h a = 7 ∧ Ev d 150 5 [l0, l1, l2] t (wF h a 0 (.int x)) Q) := en_putfield mm150 dX6_recognise_2 (by decide +kernel) rfl
theorem i150_5 {d a l1 l2 t h Q} : Ev d 150 5 [some (.ref a), l1, l2] t h Q = Ev d 150 6 [some (.ref a), l1, l2] (.ref a :: t) h Q := en_aload_n mm150 dX6_recognise_5 rfl
theorem i150_6 {d l0 l2 t x h Q} : Ev d 150 6 [l0, some (.int x), l2] t h Q = Ev d 150 7 [l0, some (.int x), l2] (.int x :: t) h Q := en_iload_n mm150 dX6_recognise_6 rfl
theorem i150_7 {d l0 l1 t x h Q} : Ev d 150 7 [l0, l1, some (.int x)] t h Q = Ev d 150 8 [l0, l1, some (.int x)] (.int x :: t) h Q := en_iload_n mm150 dX6_recognise_7 rfl
theorem i150_8 {d a l0 l1 l2 x0 x1 h Q} : Ev (d + 1) 150 8 [l0, l1, l2] [x0, x1, .ref a] h Q = (hk h a = 7 ∧ EvM d 148 [.ref a, x1, x0] h (konN (d + 1) 150 11 [l0, l1, l2] [] Q)) := en_virtualN mm150 dX6_recognise_8 (by decide +kernel : ml _ _ = some (2, 148)) (by decide) (rfl : mtab[148]? = some _) (by decide +kernel : npar _ = 2) rfl (by decide) rfl (of_decide_eq_true rfl) (len_cat (of_decide_eq_true rfl)) rfl rfl rfl
theorem i150_11 {d l0 l1 l2 t x h Q} : Ev d 150 11 [l0, l1, l2] (.int x :: t) h Q = if x = 0 then Ev d 150 18 [l0, l1, l2] t h Q else Ev d 150 14 [l0, l1, l2] t h Q := en_if_eq mm150 dX6_recognise_11 rfl
theorem i150_14 {d l0 l1 l2 t h Q} : Ev d 150 14 [l0, l1, l2] t h Q = Ev d 150 15 [l0, l1, l2] (.int 0 :: t) h Q := en_iconst mm150 dX6_recognise_14 (by decide)
theorem i150_15 {d l0 l1 l2 t h Q} : Ev d 150 15 [l0, l1, l2] t h Q = Ev d 150 23 [l0, l1, l2] t h Q := en_goto mm150 dX6_recognise_15 rfl
theorem i150_18 {d l0 l2 t x h Q} : Ev d 150 18 [l0, some (.int x), l2] t h Q = Ev d 150 19 [l0, some (.int x), l2] (.int x :: t) h Q := en_iload_n mm150 dX6_recognise_18 rfl
theorem i150_19 {d l0 l1 t x h Q} : Ev d 150 19 [l0, l1, some (.int x)] t h Q = Ev d 150 20 [l0, l1, some (.int x)] (.int x :: t) h Q := en_iload_n mm150 dX6_recognise_19 rfl
theorem i150_20 {d l0 l1 l2 x0 x1 h Q} : Ev (d + 1) 150 20 [l0, l1, l2] [x0, x1] h Q = EvM d 149 [x1, x0] h (konN (d + 1) 150 23 [l0, l1, l2] [] Q) := en_staticN mm150 dX6_recognise_20 (by decide +kernel : ml _ _ = some (0, 149)) (by decide) (rfl : mtab[149]? = some _) (by decide +kernel : npar _ = 2) (of_decide_eq_true rfl) (len_cat (of_decide_eq_true rfl)) rfl rfl rfl
theorem i150_23 {d l0 l1 l2 x h Q} : Ev d 150 23 [l0, l1, l2] [.int x] h Q = Q (.inl (some (.int x))) h := en_ireturnI mm150 dX6_recognise_23 rfl
abbrev em151 : MI := (yX6_guard, cX6_guard, 4, some .int, 6, [])
theorem mm151 : mtab[151]? = some em151 := rfl
theorem in151 {d : Nat} {h : AH} {K : AO → AH → Prop} {v0 : Nat} {v1 : Int32} : EvM d 151 [(.ref v0), (.int v1)] h K = Ev d 151 0 [some (.ref v0), some (.int v1), none, none] [] h K := evm_in mm151 (of_decide_eq_true rfl) rfl
theorem i151_0 {d a l1 l2 l3 t h Q} : Ev d 151 0 [some (.ref a), l1, l2, l3] t h Q = Ev d 151 1 [some (.ref a), l1, l2, l3] (.ref a :: t) h Q := en_aload_n mm151 dX6_guard_0 rfl
theorem i151_1 {d l0 l1 l2 l3 t h Q} : Ev d 151 1 [l0, l1, l2, l3] t h Q = Ev d 151 2 [l0, l1, l2, l3] (.int 0 :: t) h Q := en_iconst mm151 dX6_guard_1 (by decide)
theorem i151_2 {d a l0 l1 l2 l3 t x h Q} : Ev d 151 2 [l0, l1, l2, l3] (.int x :: .ref a :: t) h Q = (hk h a = 7 ∧ Ev d 151 5 [l0, l1, l2, l3] t (wF h a 0 (.int x)) Q) := en_putfield mm151 dX6_guard_2 (by decide +kernel) rfl
theorem i151_5 {d a l1 l2 l3 t h Q} : Ev d 151 5 [some (.ref a), l1, l2, l3] t h Q = Ev d 151 6 [some (.ref a), l1, l2, l3] (.ref a :: t) h Q := en_aload_n mm151 dX6_guard_5 rfl
theorem i151_6 {d l0 l2 l3 t x h Q} : Ev d 151 6 [l0, some (.int x), l2, l3] t h Q = Ev d 151 7 [l0, some (.int x), l2, l3] (.int x :: t) h Q := en_iload_n mm151 dX6_guard_6 rfl
theorem i151_7 {d a l0 l1 l2 l3 x0 h Q} : Ev (d + 1) 151 7 [l0, l1, l2, l3] [x0, .ref a] h Q = (hk h a = 7 ∧ EvM d 133 [.ref a, x0] h (konN (d + 1) 151 10 [l0, l1, l2, l3] [] Q)) := en_virtualN mm151 dX6_guard_7 (by decide +kernel : ml _ _ = some (2, 133)) (by decide) (rfl : mtab[133]? = some _) (by decide +kernel : npar _ = 1) rfl (by decide) rfl (of_decide_eq_true rfl) (len_cat (of_decide_eq_true rfl)) rfl rfl rfl
theorem i151_10 {d l0 l1 l2 l3 t x h Q} : Ev d 151 10 [l0, l1, l2, l3] (.int x :: t) h Q = if x = 0 then Ev d 151 15 [l0, l1, l2, l3] t h Q else Ev d 151 13 [l0, l1, l2, l3] t h Q := en_if_eq mm151 dX6_guard_10 rfl
theorem i151_13 {d l0 l1 l2 l3 t h Q} : Ev d 151 13 [l0, l1, l2, l3] t h Q = Ev d 151 14 [l0, l1, l2, l3] (.int 0 :: t) h Q := en_iconst mm151 dX6_guard_13 (by decide)
theorem i151_14 {d l0 l1 l2 l3 x h Q} : Ev d 151 14 [l0, l1, l2, l3] [.int x] h Q = Q (.inl (some (.int x))) h := en_ireturnI mm151 dX6_guard_14 rfl
theorem i151_15 {d a l1 l2 l3 t h Q} : Ev d 151 15 [some (.ref a), l1, l2, l3] t h Q = Ev d 151 16 [some (.ref a), l1, l2, l3] (.ref a :: t) h Q := en_aload_n mm151 dX6_guard_15 rfl
theorem i151_16 {d a l0 l1 l2 l3 h Q} : Ev (d + 1) 151 16 [l0, l1, l2, l3] [.ref a] h Q = (hk h a = 7 ∧ EvM d 134 [.ref a] h (konN (d + 1) 151 19 [l0, l1, l2, l3] [] Q)) := en_virtualN mm151 dX6_guard_16 (by decide +kernel : ml _ _ = some (2, 134)) (by decide) (rfl : mtab[134]? = some _) (by decide +kernel : npar _ = 0) rfl (by decide) rfl (of_decide_eq_true rfl) (len_cat (of_decide_eq_true rfl)) rfl rfl rfl
theorem i151_19 {d l0 l1 l2 l3 t x h Q} : Ev d 151 19 [l0, l1, l2, l3] (.int x :: t) h Q = if x = 0 then Ev d 151 24 [l0, l1, l2, l3] t h Q else Ev d 151 22 [l0, l1, l2, l3] t h Q := en_if_eq mm151 dX6_guard_19 rfl
theorem i151_22 {d l0 l1 l2 l3 t h Q} : Ev d 151 22 [l0, l1, l2, l3] t h Q = Ev d 151 23 [l0, l1, l2, l3] (.int (-1) :: t) h Q := en_iconst mm151 dX6_guard_22 (by decide)
theorem i151_23 {d l0 l1 l2 l3 x h Q} : Ev d 151 23 [l0, l1, l2, l3] [.int x] h Q = Q (.inl (some (.int x))) h := en_ireturnI mm151 dX6_guard_23 rfl
theorem i151_24 {d a l1 l2 l3 t h Q} : Ev d 151 24 [some (.ref a), l1, l2, l3] t h Q = Ev d 151 25 [some (.ref a), l1, l2, l3] (.ref a :: t) h Q := en_aload_n mm151 dX6_guard_24 rfl
theorem i151_25 {d a l0 l1 l2 l3 t h Q} : Ev d 151 25 [l0, l1, l2, l3] (.ref a :: t) h Q = (hk h a = 7 ∧ Ev d 151 28 [l0, l1, l2, l3] (hF h a 8 :: t) h Q) := en_getfield mm151 dX6_guard_25 (by decide +kernel)
theorem i151_28 {d a l1 l2 l3 t h Q} : Ev d 151 28 [some (.ref a), l1, l2, l3] t h Q = Ev d 151 29 [some (.ref a), l1, l2, l3] (.ref a :: t) h Q := en_aload_n mm151 dX6_guard_28 rfl
theorem i151_29 {d a l0 l1 l2 l3 t h Q} : Ev d 151 29 [l0, l1, l2, l3] (.ref a :: t) h Q = (hk h a = 7 ∧ Ev d 151 32 [l0, l1, l2, l3] (hF h a 10 :: t) h Q) := en_getfield mm151 dX6_guard_29 (by decide +kernel)
theorem i151_32 {d l0 l1 l2 l3 x0 x1 h Q} : Ev (d + 1) 151 32 [l0, l1, l2, l3] [x0, x1] h Q = EvM d 93 [x1, x0] h (konN (d + 1) 151 35 [l0, l1, l2, l3] [] Q) := en_staticN mm151 dX6_guard_32 (by decide +kernel : ml _ _ = some (0, 93)) (by decide) (rfl : mtab[93]? = some _) (by decide +kernel : npar _ = 2) (of_decide_eq_true rfl) (len_cat (of_decide_eq_true rfl)) rfl rfl rfl
theorem i151_35 {d l0 l1 l2 l3 t h Q} : Ev d 151 35 [l0, l1, l2, l3] t h Q = Ev d 151 36 [l0, l1, l2, l3] (.int 0 :: t) h Q := en_iconst mm151 dX6_guard_35 (by decide)
theorem i151_36 {d l0 l1 l2 l3 t x h Q} : Ev d 151 36 [l0, l1, l2, l3] (.int x :: t) h Q = Ev d 151 37 [l0, nl l1, some (.int x), l3] t h Q := en_istore_n mm151 dX6_guard_36 (of_decide_eq_true rfl) rfl
theorem i151_37 {d l0 l1 l3 t x h Q} : Ev d 151 37 [l0, l1, some (.int x), l3] t h Q = Ev d 151 38 [l0, l1, some (.int x), l3] (.int x :: t) h Q := en_iload_n mm151 dX6_guard_37 rfl
theorem i151_38 {d a l1 l2 l3 t h Q} : Ev d 151 38 [some (.ref a), l1, l2, l3] t h Q = Ev d 151 39 [some (.ref a), l1, l2, l3] (.ref a :: t) h Q := en_aload_n mm151 dX6_guard_38 rfl
theorem i151_39 {d a l0 l1 l2 l3 t h Q} : Ev d 151 39 [l0, l1, l2, l3] (.ref a :: t) h Q = (hk h a = 7 ∧ Ev d 151 42 [l0, l1, l2, l3] (hF h a 8 :: t) h Q) := en_getfield mm151 dX6_guard_39 (by decide +kernel)
theorem i151_42 {d l0 l1 l2 l3 t h Q} : Ev d 151 42 [l0, l1, l2, l3] t h Q = Ev d 151 43 [l0, l1, l2, l3] (.int 0 :: t) h Q := en_iconst mm151 dX6_guard_42 (by decide)
theorem i151_43 {d a j l0 l1 l2 l3 t h Q} : Ev d 151 43 [l0, l1, l2, l3] (.int j :: .ref a :: t) h Q = (hk h a = 10 ∧ inb j (hl h a) ∧ Ev d 151 44 [l0, l1, l2, l3] (.int (hA h a j.toNatClampNeg) :: t) h Q) := en_iaload mm151 dX6_guard_43
theorem i151_44 {d l0 l1 l2 l3 t x y h Q} : Ev d 151 44 [l0, l1, l2, l3] (.int y :: .int x :: t) h Q = if y ≤ x then Ev d 151 79 [l0, l1, l2, l3] t h Q else Ev d 151 47 [l0, l1, l2, l3] t h Q := en_ic_ge mm151 dX6_guard_44 rfl
theorem i151_47 {d a l1 l2 l3 t h Q} : Ev d 151 47 [some (.ref a), l1, l2, l3] t h Q = Ev d 151 48 [some (.ref a), l1, l2, l3] (.ref a :: t) h Q := en_aload_n mm151 dX6_guard_47 rfl
theorem i151_48 {d a l0 l1 l2 l3 t h Q} : Ev d 151 48 [l0, l1, l2, l3] (.ref a :: t) h Q = (hk h a = 7 ∧ Ev d 151 51 [l0, l1, l2, l3] (hF h a 8 :: t) h Q) := en_getfield mm151 dX6_guard_48 (by decide +kernel)
theorem i151_51 {d l0 l1 l3 t x h Q} : Ev d 151 51 [l0, l1, some (.int x), l3] t h Q = Ev d 151 52 [l0, l1, some (.int x), l3] (.int x :: t) h Q := en_iload_n mm151 dX6_guard_51 rfl
theorem i151_52 {d l0 l1 l2 l3 x0 x1 h Q} : Ev (d + 1) 151 52 [l0, l1, l2, l3] [x0, x1] h Q = EvM d 94 [x0] h (konN (d + 1) 151 55 [l0, l1, l2, l3] [x1] Q) := en_staticN mm151 dX6_guard_52 (by decide +kernel : ml _ _ = some (0, 94)) (by decide) (rfl : mtab[94]? = some _) (by decide +kernel : npar _ = 1) (of_decide_eq_true rfl) (len_cat (of_decide_eq_true rfl)) rfl rfl rfl
theorem i151_55 {d l0 l1 l2 l3 t h Q} : Ev d 151 55 [l0, l1, l2, l3] t h Q = Ev d 151 56 [l0, l1, l2, l3] (.int 5 :: t) h Q := en_iconst mm151 dX6_guard_55 (by decide)
theorem i151_56 {d l0 l1 l2 l3 t x y h Q} : Ev d 151 56 [l0, l1, l2, l3] (.int y :: .int x :: t) h Q = Ev d 151 57 [l0, l1, l2, l3] (.int (x + y) :: t) h Q := en_iadd mm151 dX6_guard_56
theorem i151_57 {d a l1 l2 l3 t h Q} : Ev d 151 57 [some (.ref a), l1, l2, l3] t h Q = Ev d 151 58 [some (.ref a), l1, l2, l3] (.ref a :: t) h Q := en_aload_n mm151 dX6_guard_57 rfl
theorem i151_58 {d a l0 l1 l2 l3 t h Q} : Ev d 151 58 [l0, l1, l2, l3] (.ref a :: t) h Q = (hk h a = 7 ∧ Ev d 151 61 [l0, l1, l2, l3] (hF h a 8 :: t) h Q) := en_getfield mm151 dX6_guard_58 (by decide +kernel)
theorem i151_61 {d l0 l1 l3 t x h Q} : Ev d 151 61 [l0, l1, some (.int x), l3] t h Q = Ev d 151 62 [l0, l1, some (.int x), l3] (.int x :: t) h Q := en_iload_n mm151 dX6_guard_61 rfl
theorem i151_62 {d l0 l1 l2 l3 x0 x1 x2 x3 h Q} : Ev (d + 1) 151 62 [l0, l1, l2, l3] [x0, x1, x2, x3] h Q = EvM d 94 [x0] h (konN (d + 1) 151 65 [l0, l1, l2, l3] [x1, x2, x3] Q) := en_staticN mm151 dX6_guard_62 (by decide +kernel : ml _ _ = some (0, 94)) (by decide) (rfl : mtab[94]? = some _) (by decide +kernel : npar _ = 1) (of_decide_eq_true rfl) (len_cat (of_decide_eq_true rfl)) rfl rfl rfl
theorem i151_65 {d a j l0 l1 l2 l3 t h Q} : Ev d 151 65 [l0, l1, l2, l3] (.int j :: .ref a :: t) h Q = (hk h a = 10 ∧ inb j (hl h a) ∧ Ev d 151 66 [l0, l1, l2, l3] (.int (hA h a j.toNatClampNeg) :: t) h Q) := en_iaload mm151 dX6_guard_65
theorem i151_66 {d a j l0 l1 l2 l3 t x h Q} : Ev d 151 66 [l0, l1, l2, l3] (.int x :: .int j :: .ref a :: t) h Q = (hk h a = 10 ∧ inb j (hl h a) ∧ Ev d 151 67 [l0, l1, l2, l3] t (wA h a (upd (hA h a) j.toNatClampNeg x)) Q) := en_iastore mm151 dX6_guard_66
theorem i151_67 {d a l1 l2 l3 t h Q} : Ev d 151 67 [some (.ref a), l1, l2, l3] t h Q = Ev d 151 68 [some (.ref a), l1, l2, l3] (.ref a :: t) h Q := en_aload_n mm151 dX6_guard_67 rfl
theorem i151_68 {d l0 l1 l3 t x h Q} : Ev d 151 68 [l0, l1, some (.int x), l3] t h Q = Ev d 151 69 [l0, l1, some (.int x), l3] (.int x :: t) h Q := en_iload_n mm151 dX6_guard_68 rfl
theorem i151_69 {d l0 l1 l2 l3 t h Q} : Ev d 151 69 [l0, l1, l2, l3] t h Q = Ev d 151 70 [l0, l1, l2, l3] (.int (-1) :: t) h Q := en_iconst mm151 dX6_guard_69 (by decide)
theorem i151_70 {d a l0 l1 l2 l3 x0 x1 h Q} : Ev (d + 1) 151 70 [l0, l1, l2, l3] [x0, x1, .ref a] h Q = (hk h a = 7 ∧ EvM d 117 [.ref a, x1, x0] h (konN (d + 1) 151 73 [l0, l1, l2, l3] [] Q)) := en_virtualN mm151 dX6_guard_70 (by decide +kernel : ml _ _ = some (2, 117)) (by decide) (rfl : mtab[117]? = some _) (by decide +kernel : npar _ = 2) rfl (by decide) rfl (of_decide_eq_true rfl) (len_cat (of_decide_eq_true rfl)) rfl rfl rfl
theorem i151_73 {d l0 l1 l3 t x h Q} : Ev d 151 73 [l0, l1, some (.int x), l3] t h Q = Ev d 151 76 [l0, nl l1, some (.int (x + 1)), l3] t h Q := en_iinc mm151 dX6_guard_73 rfl (by decide) rfl
theorem i151_76 {d l0 l1 l2 l3 t h Q} : Ev d 151 76 [l0, l1, l2, l3] t h Q = Ev d 151 37 [l0, l1, l2, l3] t h Q := en_goto mm151 dX6_guard_76 rfl
theorem i151_79 {d a l1 l2 l3 t h Q} : Ev d 151 79 [some (.ref a), l1, l2, l3] t h Q = Ev d 151 80 [some (.ref a), l1, l2, l3] (.ref a :: t) h Q := en_aload_n mm151 dX6_guard_79 rfl
theorem i151_80 {d a l0 l1 l2 l3 t h Q} : Ev d 151 80 [l0, l1, l2, l3] (.ref a :: t) h Q = (hk h a = 7 ∧ Ev d 151 83 [l0, l1, l2, l3] (hF h a 8 :: t) h Q) := en_getfield mm151 dX6_guard_80 (by decide +kernel)
theorem i151_83 {d l0 l1 l2 l3 t h Q} : Ev d 151 83 [l0, l1, l2, l3] t h Q = Ev d 151 84 [l0, l1, l2, l3] (.int 5 :: t) h Q := en_iconst mm151 dX6_guard_83 (by decide)
theorem i151_84 {d l0 l1 l2 l3 t h Q} : Ev d 151 84 [l0, l1, l2, l3] t h Q = Ev d 151 85 [l0, l1, l2, l3] (.int 0 :: t) h Q := en_iconst mm151 dX6_guard_84 (by decide)
theorem i151_85 {d a j l0 l1 l2 l3 t x h Q} : Ev d 151 85 [l0, l1, l2, l3] (.int x :: .int j :: .ref a :: t) h Q = (hk h a = 10 ∧ inb j (hl h a) ∧ Ev d 151 86 [l0, l1, l2, l3] t (wA h a (upd (hA h a) j.toNatClampNeg x)) Q) := en_iastore mm151 dX6_guard_85
theorem i151_86 {d a l1 l2 l3 t h Q} : Ev d 151 86 [some (.ref a), l1, l2, l3] t h Q = Ev d 151 87 [some (.ref a), l1, l2, l3] (.ref a :: t) h Q := en_aload_n mm151 dX6_guard_86 rfl
theorem i151_87 {d a l0 l1 l2 l3 t h Q} : Ev d 151 87 [l0, l1, l2, l3] (.ref a :: t) h Q = (hk h a = 7 ∧ Ev d 151 90 [l0, l1, l2, l3] (hF h a 8 :: t) h Q) := en_getfield mm151 dX6_guard_87 (by decide +kernel)
theorem i151_90 {d l0 l1 l2 l3 t h Q} : Ev d 151 90 [l0, l1, l2, l3] t h Q = Ev d 151 91 [l0, l1, l2, l3] (.int 1 :: t) h Q := en_iconst mm151 dX6_guard_90 (by decide)
theorem i151_91 {d l0 l1 l2 l3 t h Q} : Ev d 151 91 [l0, l1, l2, l3] t h Q = Ev d 151 92 [l0, l1, l2, l3] (.int 0 :: t) h Q := en_iconst mm151 dX6_guard_91 (by decide)
theorem i151_92 {d a j l0 l1 l2 l3 t x h Q} : Ev d 151 92 [l0, l1, l2, l3] (.int x :: .int j :: .ref a :: t) h Q = (hk h a = 10 ∧ inb j (hl h a) ∧ Ev d 151 93 [l0, l1, l2, l3] t (wA h a (upd (hA h a) j.toNatClampNeg x)) Q) := en_iastore mm151 dX6_guard_92
theorem i151_93 {d a l1 l2 l3 t h Q} : Ev d 151 93 [some (.ref a), l1, l2, l3] t h Q = Ev d 151 94 [some (.ref a), l1, l2, l3] (.ref a :: t) h Q := en_aload_n mm151 dX6_guard_93 rfl
theorem i151_94 {d l0 l2 l3 t x h Q} : Ev d 151 94 [l0, some (.int x), l2, l3] t h Q = Ev d 151 95 [l0, some (.int x), l2, l3] (.int x :: t) h Q := en_iload_n mm151 dX6_guard_94 rfl
theorem i151_95 {d a l0 l1 l2 l3 x0 h Q} : Ev (d + 1) 151 95 [l0, l1, l2, l3] [x0, .ref a] h Q = (hk h a = 7 ∧ EvM d 157 [.ref a, x0] h (konN (d + 1) 151 98 [l0, l1, l2, l3] [] Q)) := en_virtualN mm151 dX6_guard_95 (by decide +kernel : ml _ _ = some (2, 157)) (by decide) (rfl : mtab[157]? = some _) (by decide +kernel : npar _ = 1) rfl (by decide) rfl (of_decide_eq_true rfl) (len_cat (of_decide_eq_true rfl)) rfl rfl rfl
theorem i151_98 {d l0 l1 l2 l3 t x h Q} : Ev d 151 98 [l0, l1, l2, l3] (.int x :: t) h Q = Ev d 151 99 [l0, l1, l2, l3] t h Q := en_popI mm151 dX6_guard_98
theorem i151_99 {d l0 l1 l2 l3 t h Q} : Ev d 151 99 [l0, l1, l2, l3] t h Q = Ev d 151 100 [l0, l1, l2, l3] (.int 0 :: t) h Q := en_iconst mm151 dX6_guard_99 (by decide)
theorem i151_100 {d l0 l1 l2 l3 t x h Q} : Ev d 151 100 [l0, l1, l2, l3] (.int x :: t) h Q = Ev d 151 101 [l0, nl l1, some (.int x), l3] t h Q := en_istore_n mm151 dX6_guard_100 (of_decide_eq_true rfl) rfl
theorem i151_101 {d l0 l1 l3 t x h Q} : Ev d 151 101 [l0, l1, some (.int x), l3] t h Q = Ev d 151 102 [l0, l1, some (.int x), l3] (.int x :: t) h Q := en_iload_n mm151 dX6_guard_101 rfl
theorem i151_102 {d l0 l1 l2 l3 t h Q} : Ev d 151 102 [l0, l1, l2, l3] t h Q = Ev d 151 105 [l0, l1, l2, l3] (.int 300 :: t) h Q := en_sipush mm151 dX6_guard_102 (by decide)
theorem i151_105 {d l0 l1 l2 l3 t x y h Q} : Ev d 151 105 [l0, l1, l2, l3] (.int y :: .int x :: t) h Q = if y ≤ x then Ev d 151 125 [l0, l1, l2, l3] t h Q else Ev d 151 108 [l0, l1, l2, l3] t h Q := en_ic_ge mm151 dX6_guard_105 rfl
theorem i151_108 {d a l1 l2 l3 t h Q} : Ev d 151 108 [some (.ref a), l1, l2, l3] t h Q = Ev d 151 109 [some (.ref a), l1, l2, l3] (.ref a :: t) h Q := en_aload_n mm151 dX6_guard_108 rfl
theorem i151_109 {d a l0 l1 l2 l3 h Q} : Ev (d + 1) 151 109 [l0, l1, l2, l3] [.ref a] h Q = (hk h a = 7 ∧ EvM d 130 [.ref a] h (konN (d + 1) 151 112 [l0, l1, l2, l3] [] Q)) := en_virtualN mm151 dX6_guard_109 (by decide +kernel : ml _ _ = some (2, 130)) (by decide) (rfl : mtab[130]? = some _) (by decide +kernel : npar _ = 0) rfl (by decide) rfl (of_decide_eq_true rfl) (len_cat (of_decide_eq_true rfl)) rfl rfl rfl
theorem i151_112 {d l0 l1 l2 l3 t x h Q} : Ev d 151 112 [l0, l1, l2, l3] (.int x :: t) h Q = if x = 0 then Ev d 151 115 [l0, l1, l2, l3] t h Q else Ev d 151 125 [l0, l1, l2, l3] t h Q := en_if_ne mm151 dX6_guard_112 rfl
theorem i151_115 {d a l1 l2 l3 t h Q} : Ev d 151 115 [some (.ref a), l1, l2, l3] t h Q = Ev d 151 116 [some (.ref a), l1, l2, l3] (.ref a :: t) h Q := en_aload_n mm151 dX6_guard_115 rfl
theorem i151_116 {d a l0 l1 l2 l3 h Q} : Ev (d + 1) 151 116 [l0, l1, l2, l3] [.ref a] h Q = (hk h a = 7 ∧ EvM d 128 [.ref a] h (konN (d + 1) 151 119 [l0, l1, l2, l3] [] Q)) := en_virtualN mm151 dX6_guard_116 (by decide +kernel : ml _ _ = some (2, 128)) (by decide) (rfl : mtab[128]? = some _) (by decide +kernel : npar _ = 0) rfl (by decide) rfl (of_decide_eq_true rfl) (len_cat (of_decide_eq_true rfl)) rfl rfl rfl
theorem i151_119 {d l0 l1 l3 t x h Q} : Ev d 151 119 [l0, l1, some (.int x), l3] t h Q = Ev d 151 122 [l0, nl l1, some (.int (x + 1)), l3] t h Q := en_iinc mm151 dX6_guard_119 rfl (by decide) rfl
theorem i151_122 {d l0 l1 l2 l3 t h Q} : Ev d 151 122 [l0, l1, l2, l3] t h Q = Ev d 151 101 [l0, l1, l2, l3] t h Q := en_goto mm151 dX6_guard_122 rfl
theorem i151_125 {d a l1 l2 l3 t h Q} : Ev d 151 125 [some (.ref a), l1, l2, l3] t h Q = Ev d 151 126 [some (.ref a), l1, l2, l3] (.ref a :: t) h Q := en_aload_n mm151 dX6_guard_125 rfl
theorem i151_126 {d l0 l1 l2 l3 t h Q} : Ev d 151 126 [l0, l1, l2, l3] t h Q = Ev d 151 127 [l0, l1, l2, l3] (.int 0 :: t) h Q := en_iconst mm151 dX6_guard_126 (by decide)
theorem i151_127 {d a l0 l1 l2 l3 x0 h Q} : Ev (d + 1) 151 127 [l0, l1, l2, l3] [x0, .ref a] h Q = (hk h a = 7 ∧ EvM d 119 [.ref a, x0] h (konN (d + 1) 151 130 [l0, l1, l2, l3] [] Q)) := en_virtualN mm151 dX6_guard_127 (by decide +kernel : ml _ _ = some (2, 119)) (by decide) (rfl : mtab[119]? = some _) (by decide +kernel : npar _ = 1) rfl (by decide) rfl (of_decide_eq_true rfl) (len_cat (of_decide_eq_true rfl)) rfl rfl rfl
theorem i151_130 {d l0 l1 l2 l3 t h Q} : Ev d 151 130 [l0, l1, l2, l3] t h Q = Ev d 151 131 [l0, l1, l2, l3] (.int 3 :: t) h Q := en_iconst mm151 dX6_guard_130 (by decide)
theorem i151_131 {d l0 l1 l2 l3 t x y h Q} : Ev d 151 131 [l0, l1, l2, l3] (.int y :: .int x :: t) h Q = if x = y then Ev d 151 134 [l0, l1, l2, l3] t h Q else Ev d 151 138 [l0, l1, l2, l3] t h Q := en_ic_ne mm151 dX6_guard_131 rfl
theorem i151_134 {d l0 l1 l2 l3 t h Q} : Ev d 151 134 [l0, l1, l2, l3] t h Q = Ev d 151 135 [l0, l1, l2, l3] (.int 1 :: t) h Q := en_iconst mm151 dX6_guard_134 (by decide)
theorem i151_135 {d l0 l1 l2 l3 t h Q} : Ev d 151 135 [l0, l1, l2, l3] t h Q = Ev d 151 139 [l0, l1, l2, l3] t h Q := en_goto mm151 dX6_guard_135 rfl
theorem i151_138 {d l0 l1 l2 l3 t h Q} : Ev d 151 138 [l0, l1, l2, l3] t h Q = Ev d 151 139 [l0, l1, l2, l3] (.int 0 :: t) h Q := en_iconst mm151 dX6_guard_138 (by decide)
theorem i151_139 {d l0 l1 l2 l3 t x h Q} : Ev d 151 139 [l0, l1, l2, l3] (.int x :: t) h Q = Ev d 151 140 [l0, l1, nl l2, some (.int x)] t h Q := en_istore_n mm151 dX6_guard_139 (of_decide_eq_true rfl) rfl
theorem i151_140 {d a l1 l2 l3 t h Q} : Ev d 151 140 [some (.ref a), l1, l2, l3] t h Q = Ev d 151 141 [some (.ref a), l1, l2, l3] (.ref a :: t) h Q := en_aload_n mm151 dX6_guard_140 rfl
theorem i151_141 {d a l0 l1 l2 l3 t h Q} : Ev d 151 141 [l0, l1, l2, l3] (.ref a :: t) h Q = (hk h a = 7 ∧ Ev d 151 144 [l0, l1, l2, l3] (hF h a 10 :: t) h Q) := en_getfield mm151 dX6_guard_141 (by decide +kernel)
theorem i151_144 {d a l1 l2 l3 t h Q} : Ev d 151 144 [some (.ref a), l1, l2, l3] t h Q = Ev d 151 145 [some (.ref a), l1, l2, l3] (.ref a :: t) h Q := en_aload_n mm151 dX6_guard_144 rfl
theorem i151_145 {d a l0 l1 l2 l3 t h Q} : Ev d 151 145 [l0, l1, l2, l3] (.ref a :: t) h Q = (hk h a = 7 ∧ Ev d 151 148 [l0, l1, l2, l3] (hF h a 8 :: t) h Q) := en_getfield mm151 dX6_guard_145 (by decide +kernel)
theorem i151_148 {d l0 l1 l2 l3 x0 x1 h Q} : Ev (d + 1) 151 148 [l0, l1, l2, l3] [x0, x1] h Q = EvM d 93 [x1, x0] h (konN (d + 1) 151 151 [l0, l1, l2, l3] [] Q) := en_staticN mm151 dX6_guard_148 (by decide +kernel : ml _ _ = some (0, 93)) (by decide) (rfl : mtab[93]? = some _) (by decide +kernel : npar _ = 2) (of_decide_eq_true rfl) (len_cat (of_decide_eq_true rfl)) rfl rfl rfl
theorem i151_151 {d l0 l1 l2 t x h Q} : Ev d 151 151 [l0, l1, l2, some (.int x)] t h Q = Ev d 151 152 [l0, l1, l2, some (.int x)] (.int x :: t) h Q := en_iload_n mm151 dX6_guard_151 rfl
theorem i151_152 {d l0 l1 l2 l3 t x h Q} : Ev d 151 152 [l0, l1, l2, l3] (.int x :: t) h Q = if x = 0 then Ev d 151 159 [l0, l1, l2, l3] t h Q else Ev d 151 155 [l0, l1, l2, l3] t h Q := en_if_eq mm151 dX6_guard_152 rfl
theorem i151_155 {d l0 l1 l3 t x h Q} : Ev d 151 155 [l0, l1, some (.int x), l3] t h Q = Ev d 151 156 [l0, l1, some (.int x), l3] (.int x :: t) h Q := en_iload_n mm151 dX6_guard_155 rfl
theorem i151_156 {d l0 l1 l2 l3 t h Q} : Ev d 151 156 [l0, l1, l2, l3] t h Q = Ev d 151 160 [l0, l1, l2, l3] t h Q := en_goto mm151 dX6_guard_156 rfl
theorem i151_159 {d l0 l1 l2 l3 t h Q} : Ev d 151 159 [l0, l1, l2, l3] t h Q = Ev d 151 160 [l0, l1, l2, l3] (.int (-1) :: t) h Q := en_iconst mm151 dX6_guard_159 (by decide)
theorem i151_160 {d l0 l1 l2 l3 x h Q} : Ev d 151 160 [l0, l1, l2, l3] [.int x] h Q = Q (.inl (some (.int x))) h := en_ireturnI mm151 dX6_guard_160 rfl
abbrev em152 : MI := (yX6_finishTime, cX6_finishTime, 4, some .int, 6, [])
theorem mm152 : mtab[152]? = some em152 := rfl
theorem in152 {d : Nat} {h : AH} {K : AO → AH → Prop} {v0 : Nat} {v1 : Int32} : EvM d 152 [(.ref v0), (.int v1)] h K = Ev d 152 0 [some (.ref v0), some (.int v1), none, none] [] h K := evm_in mm152 (of_decide_eq_true rfl) rfl
theorem i152_0 {d a l1 l2 l3 t h Q} : Ev d 152 0 [some (.ref a), l1, l2, l3] t h Q = Ev d 152 1 [some (.ref a), l1, l2, l3] (.ref a :: t) h Q := en_aload_n mm152 dX6_finishTime_0 rfl
theorem i152_1 {d l0 l1 l2 l3 t h Q} : Ev d 152 1 [l0, l1, l2, l3] t h Q = Ev d 152 2 [l0, l1, l2, l3] (.int 0 :: t) h Q := en_iconst mm152 dX6_finishTime_1 (by decide)
theorem i152_2 {d a l0 l1 l2 l3 t x h Q} : Ev d 152 2 [l0, l1, l2, l3] (.int x :: .ref a :: t) h Q = (hk h a = 7 ∧ Ev d 152 5 [l0, l1, l2, l3] t (wF h a 0 (.int x)) Q) := en_putfield mm152 dX6_finishTime_2 (by decide +kernel) rfl
theorem i152_5 {d a l1 l2 l3 t h Q} : Ev d 152 5 [some (.ref a), l1, l2, l3] t h Q = Ev d 152 6 [some (.ref a), l1, l2, l3] (.ref a :: t) h Q := en_aload_n mm152 dX6_finishTime_5 rfl
theorem i152_6 {d l0 l2 l3 t x h Q} : Ev d 152 6 [l0, some (.int x), l2, l3] t h Q = Ev d 152 7 [l0, some (.int x), l2, l3] (.int x :: t) h Q := en_iload_n mm152 dX6_finishTime_6 rfl
theorem i152_7 {d l0 l1 l2 l3 t h Q} : Ev d 152 7 [l0, l1, l2, l3] t h Q = Ev d 152 8 [l0, l1, l2, l3] (.int 0 :: t) h Q := en_iconst mm152 dX6_finishTime_7 (by decide)
theorem i152_8 {d l0 l1 l2 l3 t h Q} : Ev d 152 8 [l0, l1, l2, l3] t h Q = Ev d 152 11 [l0, l1, l2, l3] (.int 300 :: t) h Q := en_sipush mm152 dX6_finishTime_8 (by decide)
theorem i152_11 {d l0 l1 l2 l3 x0 x1 x2 x3 h Q} : Ev (d + 1) 152 11 [l0, l1, l2, l3] [x0, x1, x2, x3] h Q = EvM d 90 [x2, x1, x0] h (konN (d + 1) 152 14 [l0, l1, l2, l3] [x3] Q) := en_staticN mm152 dX6_finishTime_11 (by decide +kernel : ml _ _ = some (0, 90)) (by decide) (rfl : mtab[90]? = some _) (by decide +kernel : npar _ = 3) (of_decide_eq_true rfl) (len_cat (of_decide_eq_true rfl)) rfl rfl rfl
theorem i152_14 {d l0 l1 l2 l3 t x h Q} : Ev d 152 14 [l0, l1, l2, l3] (.int x :: t) h Q = if x = 0 then Ev d 152 17 [l0, l1, l2, l3] t h Q else Ev d 152 21 [l0, l1, l2, l3] t h Q := en_if_ne mm152 dX6_finishTime_14 rfl
theorem i152_17 {d l0 l1 l2 l3 t h Q} : Ev d 152 17 [l0, l1, l2, l3] t h Q = Ev d 152 18 [l0, l1, l2, l3] (.int 1 :: t) h Q := en_iconst mm152 dX6_finishTime_17 (by decide)
theorem i152_18 {d l0 l1 l2 l3 t h Q} : Ev d 152 18 [l0, l1, l2, l3] t h Q = Ev d 152 22 [l0, l1, l2, l3] t h Q := en_goto mm152 dX6_finishTime_18 rfl
theorem i152_21 {d l0 l1 l2 l3 t h Q} : Ev d 152 21 [l0, l1, l2, l3] t h Q = Ev d 152 22 [l0, l1, l2, l3] (.int 0 :: t) h Q := en_iconst mm152 dX6_finishTime_21 (by decide)
theorem i152_22 {d l0 l1 l2 l3 t h Q} : Ev d 152 22 [l0, l1, l2, l3] t h Q = Ev d 152 23 [l0, l1, l2, l3] (.int 1 :: t) h Q := en_iconst mm152 dX6_finishTime_22 (by decide)
theorem i152_23 {d a l0 l1 l2 l3 x0 x1 h Q} : Ev (d + 1) 152 23 [l0, l1, l2, l3] [x0, x1, .ref a] h Q = (hk h a = 7 ∧ EvM d 89 [.ref a, x1, x0] h (konN (d + 1) 152 26 [l0, l1, l2, l3] [] Q)) := en_virtualN mm152 dX6_finishTime_23 (by decide +kernel : ml _ _ = some (2, 89)) (by decide) (rfl : mtab[89]? = some _) (by decide +kernel : npar _ = 2) rfl (by decide) rfl (of_decide_eq_true rfl) (len_cat (of_decide_eq_true rfl)) rfl rfl rfl
theorem i152_26 {d l0 l1 l2 l3 t x h Q} : Ev d 152 26 [l0, l1, l2, l3] (.int x :: t) h Q = if x = 0 then Ev d 152 31 [l0, l1, l2, l3] t h Q else Ev d 152 29 [l0, l1, l2, l3] t h Q := en_if_eq mm152 dX6_finishTime_26 rfl
theorem i152_29 {d l0 l1 l2 l3 t h Q} : Ev d 152 29 [l0, l1, l2, l3] t h Q = Ev d 152 30 [l0, l1, l2, l3] (.int 0 :: t) h Q := en_iconst mm152 dX6_finishTime_29 (by decide)
theorem i152_30 {d l0 l1 l2 l3 x h Q} : Ev d 152 30 [l0, l1, l2, l3] [.int x] h Q = Q (.inl (some (.int x))) h := en_ireturnI mm152 dX6_finishTime_30 rfl
theorem i152_31 {d a l1 l2 l3 t h Q} : Ev d 152 31 [some (.ref a), l1, l2, l3] t h Q = Ev d 152 32 [some (.ref a), l1, l2, l3] (.ref a :: t) h Q := en_aload_n mm152 dX6_finishTime_31 rfl
theorem i152_32 {d a l0 l1 l2 l3 t h Q} : Ev d 152 32 [l0, l1, l2, l3] (.ref a :: t) h Q = (hk h a = 7 ∧ Ev d 152 35 [l0, l1, l2, l3] (hF h a 8 :: t) h Q) := en_getfield mm152 dX6_finishTime_32 (by decide +kernel)
theorem i152_35 {d a l1 l2 l3 t h Q} : Ev d 152 35 [some (.ref a), l1, l2, l3] t h Q = Ev d 152 36 [some (.ref a), l1, l2, l3] (.ref a :: t) h Q := en_aload_n mm152 dX6_finishTime_35 rfl
theorem i152_36 {d a l0 l1 l2 l3 t h Q} : Ev d 152 36 [l0, l1, l2, l3] (.ref a :: t) h Q = (hk h a = 7 ∧ Ev d 152 39 [l0, l1, l2, l3] (hF h a 10 :: t) h Q) := en_getfield mm152 dX6_finishTime_36 (by decide +kernel)
theorem i152_39 {d l0 l1 l2 l3 x0 x1 h Q} : Ev (d + 1) 152 39 [l0, l1, l2, l3] [x0, x1] h Q = EvM d 93 [x1, x0] h (konN (d + 1) 152 42 [l0, l1, l2, l3] [] Q) := en_staticN mm152 dX6_finishTime_39 (by decide +kernel : ml _ _ = some (0, 93)) (by decide) (rfl : mtab[93]? = some _) (by decide +kernel : npar _ = 2) (of_decide_eq_true rfl) (len_cat (of_decide_eq_true rfl)) rfl rfl rfl
theorem i152_42 {d l0 l1 l2 l3 t h Q} : Ev d 152 42 [l0, l1, l2, l3] t h Q = Ev d 152 43 [l0, l1, l2, l3] (.int 0 :: t) h Q := en_iconst mm152 dX6_finishTime_42 (by decide)
theorem i152_43 {d l0 l1 l2 l3 t x h Q} : Ev d 152 43 [l0, l1, l2, l3] (.int x :: t) h Q = Ev d 152 44 [l0, nl l1, some (.int x), l3] t h Q := en_istore_n mm152 dX6_finishTime_43 (of_decide_eq_true rfl) rfl
theorem i152_44 {d l0 l1 l3 t x h Q} : Ev d 152 44 [l0, l1, some (.int x), l3] t h Q = Ev d 152 45 [l0, l1, some (.int x), l3] (.int x :: t) h Q := en_iload_n mm152 dX6_finishTime_44 rfl
theorem i152_45 {d l0 l2 l3 t x h Q} : Ev d 152 45 [l0, some (.int x), l2, l3] t h Q = Ev d 152 46 [l0, some (.int x), l2, l3] (.int x :: t) h Q := en_iload_n mm152 dX6_finishTime_45 rfl
theorem i152_46 {d l0 l1 l2 l3 t x y h Q} : Ev d 152 46 [l0, l1, l2, l3] (.int y :: .int x :: t) h Q = if y ≤ x then Ev d 152 66 [l0, l1, l2, l3] t h Q else Ev d 152 49 [l0, l1, l2, l3] t h Q := en_ic_ge mm152 dX6_finishTime_46 rfl
theorem i152_49 {d a l1 l2 l3 t h Q} : Ev d 152 49 [some (.ref a), l1, l2, l3] t h Q = Ev d 152 50 [some (.ref a), l1, l2, l3] (.ref a :: t) h Q := en_aload_n mm152 dX6_finishTime_49 rfl
theorem i152_50 {d a l0 l1 l2 l3 h Q} : Ev (d + 1) 152 50 [l0, l1, l2, l3] [.ref a] h Q = (hk h a = 7 ∧ EvM d 130 [.ref a] h (konN (d + 1) 152 53 [l0, l1, l2, l3] [] Q)) := en_virtualN mm152 dX6_finishTime_50 (by decide +kernel : ml _ _ = some (2, 130)) (by decide) (rfl : mtab[130]? = some _) (by decide +kernel : npar _ = 0) rfl (by decide) rfl (of_decide_eq_true rfl) (len_cat (of_decide_eq_true rfl)) rfl rfl rfl
theorem i152_53 {d l0 l1 l2 l3 t x h Q} : Ev d 152 53 [l0, l1, l2, l3] (.int x :: t) h Q = if x = 0 then Ev d 152 56 [l0, l1, l2, l3] t h Q else Ev d 152 66 [l0, l1, l2, l3] t h Q := en_if_ne mm152 dX6_finishTime_53 rfl
theorem i152_56 {d a l1 l2 l3 t h Q} : Ev d 152 56 [some (.ref a), l1, l2, l3] t h Q = Ev d 152 57 [some (.ref a), l1, l2, l3] (.ref a :: t) h Q := en_aload_n mm152 dX6_finishTime_56 rfl
theorem i152_57 {d a l0 l1 l2 l3 h Q} : Ev (d + 1) 152 57 [l0, l1, l2, l3] [.ref a] h Q = (hk h a = 7 ∧ EvM d 128 [.ref a] h (konN (d + 1) 152 60 [l0, l1, l2, l3] [] Q)) := en_virtualN mm152 dX6_finishTime_57 (by decide +kernel : ml _ _ = some (2, 128)) (by decide) (rfl : mtab[128]? = some _) (by decide +kernel : npar _ = 0) rfl (by decide) rfl (of_decide_eq_true rfl) (len_cat (of_decide_eq_true rfl)) rfl rfl rfl
theorem i152_60 {d l0 l1 l3 t x h Q} : Ev d 152 60 [l0, l1, some (.int x), l3] t h Q = Ev d 152 63 [l0, nl l1, some (.int (x + 1)), l3] t h Q := en_iinc mm152 dX6_finishTime_60 rfl (by decide) rfl
theorem i152_63 {d l0 l1 l2 l3 t h Q} : Ev d 152 63 [l0, l1, l2, l3] t h Q = Ev d 152 44 [l0, l1, l2, l3] t h Q := en_goto mm152 dX6_finishTime_63 rfl
theorem i152_66 {d a l1 l2 l3 t h Q} : Ev d 152 66 [some (.ref a), l1, l2, l3] t h Q = Ev d 152 67 [some (.ref a), l1, l2, l3] (.ref a :: t) h Q := en_aload_n mm152 dX6_finishTime_66 rfl
theorem i152_67 {d a l0 l1 l2 l3 h Q} : Ev (d + 1) 152 67 [l0, l1, l2, l3] [.ref a] h Q = (hk h a = 7 ∧ EvM d 130 [.ref a] h (konN (d + 1) 152 70 [l0, l1, l2, l3] [] Q)) := en_virtualN mm152 dX6_finishTime_67 (by decide +kernel : ml _ _ = some (2, 130)) (by decide) (rfl : mtab[130]? = some _) (by decide +kernel : npar _ = 0) rfl (by decide) rfl (of_decide_eq_true rfl) (len_cat (of_decide_eq_true rfl)) rfl rfl rfl
theorem i152_70 {d l0 l1 l2 l3 t x h Q} : Ev d 152 70 [l0, l1, l2, l3] (.int x :: t) h Q = Ev d 152 71 [l0, l1, nl l2, some (.int x)] t h Q := en_istore_n mm152 dX6_finishTime_70 (of_decide_eq_true rfl) rfl
theorem i152_71 {d a l1 l2 l3 t h Q} : Ev d 152 71 [some (.ref a), l1, l2, l3] t h Q = Ev d 152 72 [some (.ref a), l1, l2, l3] (.ref a :: t) h Q := en_aload_n mm152 dX6_finishTime_71 rfl
theorem i152_72 {d a l0 l1 l2 l3 t h Q} : Ev d 152 72 [l0, l1, l2, l3] (.ref a :: t) h Q = (hk h a = 7 ∧ Ev d 152 75 [l0, l1, l2, l3] (hF h a 10 :: t) h Q) := en_getfield mm152 dX6_finishTime_72 (by decide +kernel)
theorem i152_75 {d a l1 l2 l3 t h Q} : Ev d 152 75 [some (.ref a), l1, l2, l3] t h Q = Ev d 152 76 [some (.ref a), l1, l2, l3] (.ref a :: t) h Q := en_aload_n mm152 dX6_finishTime_75 rfl
theorem i152_76 {d a l0 l1 l2 l3 t h Q} : Ev d 152 76 [l0, l1, l2, l3] (.ref a :: t) h Q = (hk h a = 7 ∧ Ev d 152 79 [l0, l1, l2, l3] (hF h a 8 :: t) h Q) := en_getfield mm152 dX6_finishTime_76 (by decide +kernel)
theorem i152_79 {d l0 l1 l2 l3 x0 x1 h Q} : Ev (d + 1) 152 79 [l0, l1, l2, l3] [x0, x1] h Q = EvM d 93 [x1, x0] h (konN (d + 1) 152 82 [l0, l1, l2, l3] [] Q) := en_staticN mm152 dX6_finishTime_79 (by decide +kernel : ml _ _ = some (0, 93)) (by decide) (rfl : mtab[93]? = some _) (by decide +kernel : npar _ = 2) (of_decide_eq_true rfl) (len_cat (of_decide_eq_true rfl)) rfl rfl rfl
theorem i152_82 {d l0 l1 l2 t x h Q} : Ev d 152 82 [l0, l1, l2, some (.int x)] t h Q = Ev d 152 83 [l0, l1, l2, some (.int x)] (.int x :: t) h Q := en_iload_n mm152 dX6_finishTime_82 rfl
theorem i152_83 {d l0 l1 l2 l3 t x h Q} : Ev d 152 83 [l0, l1, l2, l3] (.int x :: t) h Q = if x = 0 then Ev d 152 90 [l0, l1, l2, l3] t h Q else Ev d 152 86 [l0, l1, l2, l3] t h Q := en_if_eq mm152 dX6_finishTime_83 rfl
theorem i152_86 {d l0 l1 l3 t x h Q} : Ev d 152 86 [l0, l1, some (.int x), l3] t h Q = Ev d 152 87 [l0, l1, some (.int x), l3] (.int x :: t) h Q := en_iload_n mm152 dX6_finishTime_86 rfl
theorem i152_87 {d l0 l1 l2 l3 t h Q} : Ev d 152 87 [l0, l1, l2, l3] t h Q = Ev d 152 91 [l0, l1, l2, l3] t h Q := en_goto mm152 dX6_finishTime_87 rfl
theorem i152_90 {d l0 l1 l2 l3 t h Q} : Ev d 152 90 [l0, l1, l2, l3] t h Q = Ev d 152 91 [l0, l1, l2, l3] (.int (-1) :: t) h Q := en_iconst mm152 dX6_finishTime_90 (by decide)
theorem i152_91 {d l0 l1 l2 l3 x h Q} : Ev d 152 91 [l0, l1, l2, l3] [.int x] h Q = Q (.inl (some (.int x))) h := en_ireturnI mm152 dX6_finishTime_91 rfl
abbrev em153 : MI := (yX6_stateAfter, cX6_stateAfter, 4, some .int, 6, [])
theorem mm153 : mtab[153]? = some em153 := rfl
theorem in153 {d : Nat} {h : AH} {K : AO → AH → Prop} {v0 : Nat} {v1 : Int32} {v2 : Int32} : EvM d 153 [(.ref v0), (.int v1), (.int v2)] h K = Ev d 153 0 [some (.ref v0), some (.int v1), some (.int v2), none] [] h K := evm_in mm153 (of_decide_eq_true rfl) rfl
theorem i153_0 {d a l1 l2 l3 t h Q} : Ev d 153 0 [some (.ref a), l1, l2, l3] t h Q = Ev d 153 1 [some (.ref a), l1, l2, l3] (.ref a :: t) h Q := en_aload_n mm153 dX6_stateAfter_0 rfl
theorem i153_1 {d l0 l1 l2 l3 t h Q} : Ev d 153 1 [l0, l1, l2, l3] t h Q = Ev d 153 2 [l0, l1, l2, l3] (.int 0 :: t) h Q := en_iconst mm153 dX6_stateAfter_1 (by decide)
theorem i153_2 {d a l0 l1 l2 l3 t x h Q} : Ev d 153 2 [l0, l1, l2, l3] (.int x :: .ref a :: t) h Q = (hk h a = 7 ∧ Ev d 153 5 [l0, l1, l2, l3] t (wF h a 0 (.int x)) Q) := en_putfield mm153 dX6_stateAfter_2 (by decide +kernel) rfl
theorem i153_5 {d a l1 l2 l3 t h Q} : Ev d 153 5 [some (.ref a), l1, l2, l3] t h Q = Ev d 153 6 [some (.ref a), l1, l2, l3] (.ref a :: t) h Q := en_aload_n mm153 dX6_stateAfter_5 rfl
theorem i153_6 {d l0 l2 l3 t x h Q} : Ev d 153 6 [l0, some (.int x), l2, l3] t h Q = Ev d 153 7 [l0, some (.int x), l2, l3] (.int x :: t) h Q := en_iload_n mm153 dX6_stateAfter_6 rfl
theorem i153_7 {d a l0 l1 l2 l3 x0 h Q} : Ev (d + 1) 153 7 [l0, l1, l2, l3] [x0, .ref a] h Q = (hk h a = 7 ∧ EvM d 132 [.ref a, x0] h (konN (d + 1) 153 10 [l0, l1, l2, l3] [] Q)) := en_virtualN mm153 dX6_stateAfter_7 (by decide +kernel : ml _ _ = some (2, 132)) (by decide) (rfl : mtab[132]? = some _) (by decide +kernel : npar _ = 1) rfl (by decide) rfl (of_decide_eq_true rfl) (len_cat (of_decide_eq_true rfl)) rfl rfl rfl
theorem i153_10 {d l0 l1 l2 l3 t x h Q} : Ev d 153 10 [l0, l1, l2, l3] (.int x :: t) h Q = if x = 0 then Ev d 153 13 [l0, l1, l2, l3] t h Q else Ev d 153 37 [l0, l1, l2, l3] t h Q := en_if_ne mm153 dX6_stateAfter_10 rfl
theorem i153_13 {d a l1 l2 l3 t h Q} : Ev d 153 13 [some (.ref a), l1, l2, l3] t h Q = Ev d 153 14 [some (.ref a), l1, l2, l3] (.ref a :: t) h Q := en_aload_n mm153 dX6_stateAfter_13 rfl
theorem i153_14 {d l0 l1 l3 t x h Q} : Ev d 153 14 [l0, l1, some (.int x), l3] t h Q = Ev d 153 15 [l0, l1, some (.int x), l3] (.int x :: t) h Q := en_iload_n mm153 dX6_stateAfter_14 rfl
theorem i153_15 {d l0 l1 l2 l3 t h Q} : Ev d 153 15 [l0, l1, l2, l3] t h Q = Ev d 153 16 [l0, l1, l2, l3] (.int 0 :: t) h Q := en_iconst mm153 dX6_stateAfter_15 (by decide)
theorem i153_16 {d l0 l1 l2 l3 t h Q} : Ev d 153 16 [l0, l1, l2, l3] t h Q = Ev d 153 19 [l0, l1, l2, l3] (.int 300 :: t) h Q := en_sipush mm153 dX6_stateAfter_16 (by decide)
theorem i153_19 {d l0 l1 l2 l3 x0 x1 x2 x3 h Q} : Ev (d + 1) 153 19 [l0, l1, l2, l3] [x0, x1, x2, x3] h Q = EvM d 90 [x2, x1, x0] h (konN (d + 1) 153 22 [l0, l1, l2, l3] [x3] Q) := en_staticN mm153 dX6_stateAfter_19 (by decide +kernel : ml _ _ = some (0, 90)) (by decide) (rfl : mtab[90]? = some _) (by decide +kernel : npar _ = 3) (of_decide_eq_true rfl) (len_cat (of_decide_eq_true rfl)) rfl rfl rfl
theorem i153_22 {d l0 l1 l2 l3 t x h Q} : Ev d 153 22 [l0, l1, l2, l3] (.int x :: t) h Q = if x = 0 then Ev d 153 25 [l0, l1, l2, l3] t h Q else Ev d 153 29 [l0, l1, l2, l3] t h Q := en_if_ne mm153 dX6_stateAfter_22 rfl
theorem i153_25 {d l0 l1 l2 l3 t h Q} : Ev d 153 25 [l0, l1, l2, l3] t h Q = Ev d 153 26 [l0, l1, l2, l3] (.int 1 :: t) h Q := en_iconst mm153 dX6_stateAfter_25 (by decide)
theorem i153_26 {d l0 l1 l2 l3 t h Q} : Ev d 153 26 [l0, l1, l2, l3] t h Q = Ev d 153 30 [l0, l1, l2, l3] t h Q := en_goto mm153 dX6_stateAfter_26 rfl
theorem i153_29 {d l0 l1 l2 l3 t h Q} : Ev d 153 29 [l0, l1, l2, l3] t h Q = Ev d 153 30 [l0, l1, l2, l3] (.int 0 :: t) h Q := en_iconst mm153 dX6_stateAfter_29 (by decide)
theorem i153_30 {d l0 l1 l2 l3 t h Q} : Ev d 153 30 [l0, l1, l2, l3] t h Q = Ev d 153 31 [l0, l1, l2, l3] (.int 2 :: t) h Q := en_iconst mm153 dX6_stateAfter_30 (by decide)
theorem i153_31 {d a l0 l1 l2 l3 x0 x1 h Q} : Ev (d + 1) 153 31 [l0, l1, l2, l3] [x0, x1, .ref a] h Q = (hk h a = 7 ∧ EvM d 89 [.ref a, x1, x0] h (konN (d + 1) 153 34 [l0, l1, l2, l3] [] Q)) := en_virtualN mm153 dX6_stateAfter_31 (by decide +kernel : ml _ _ = some (2, 89)) (by decide) (rfl : mtab[89]? = some _) (by decide +kernel : npar _ = 2) rfl (by decide) rfl (of_decide_eq_true rfl) (len_cat (of_decide_eq_true rfl)) rfl rfl rfl
theorem i153_34 {d l0 l1 l2 l3 t x h Q} : Ev d 153 34 [l0, l1, l2, l3] (.int x :: t) h Q = if x = 0 then Ev d 153 39 [l0, l1, l2, l3] t h Q else Ev d 153 37 [l0, l1, l2, l3] t h Q := en_if_eq mm153 dX6_stateAfter_34 rfl
theorem i153_37 {d l0 l1 l2 l3 t h Q} : Ev d 153 37 [l0, l1, l2, l3] t h Q = Ev d 153 38 [l0, l1, l2, l3] (.int 0 :: t) h Q := en_iconst mm153 dX6_stateAfter_37 (by decide)
theorem i153_38 {d l0 l1 l2 l3 x h Q} : Ev d 153 38 [l0, l1, l2, l3] [.int x] h Q = Q (.inl (some (.int x))) h := en_ireturnI mm153 dX6_stateAfter_38 rfl
theorem i153_39 {d a l1 l2 l3 t h Q} : Ev d 153 39 [some (.ref a), l1, l2, l3] t h Q = Ev d 153 40 [some (.ref a), l1, l2, l3] (.ref a :: t) h Q := en_aload_n mm153 dX6_stateAfter_39 rfl
theorem i153_40 {d a l0 l1 l2 l3 t h Q} : Ev d 153 40 [l0, l1, l2, l3] (.ref a :: t) h Q = (hk h a = 7 ∧ Ev d 153 43 [l0, l1, l2, l3] (hF h a 8 :: t) h Q) := en_getfield mm153 dX6_stateAfter_40 (by decide +kernel)
theorem i153_43 {d a l1 l2 l3 t h Q} : Ev d 153 43 [some (.ref a), l1, l2, l3] t h Q = Ev d 153 44 [some (.ref a), l1, l2, l3] (.ref a :: t) h Q := en_aload_n mm153 dX6_stateAfter_43 rfl
theorem i153_44 {d a l0 l1 l2 l3 t h Q} : Ev d 153 44 [l0, l1, l2, l3] (.ref a :: t) h Q = (hk h a = 7 ∧ Ev d 153 47 [l0, l1, l2, l3] (hF h a 10 :: t) h Q) := en_getfield mm153 dX6_stateAfter_44 (by decide +kernel)
theorem i153_47 {d l0 l1 l2 l3 x0 x1 h Q} : Ev (d + 1) 153 47 [l0, l1, l2, l3] [x0, x1] h Q = EvM d 93 [x1, x0] h (konN (d + 1) 153 50 [l0, l1, l2, l3] [] Q) := en_staticN mm153 dX6_stateAfter_47 (by decide +kernel : ml _ _ = some (0, 93)) (by decide) (rfl : mtab[93]? = some _) (by decide +kernel : npar _ = 2) (of_decide_eq_true rfl) (len_cat (of_decide_eq_true rfl)) rfl rfl rfl
theorem i153_50 {d l0 l1 l2 l3 t h Q} : Ev d 153 50 [l0, l1, l2, l3] t h Q = Ev d 153 51 [l0, l1, l2, l3] (.int 0 :: t) h Q := en_iconst mm153 dX6_stateAfter_50 (by decide)
theorem i153_51 {d l0 l1 l2 l3 t x h Q} : Ev d 153 51 [l0, l1, l2, l3] (.int x :: t) h Q = Ev d 153 52 [l0, l1, nl l2, some (.int x)] t h Q := en_istore_n mm153 dX6_stateAfter_51 (of_decide_eq_true rfl) rfl
theorem i153_52 {d l0 l1 l2 t x h Q} : Ev d 153 52 [l0, l1, l2, some (.int x)] t h Q = Ev d 153 53 [l0, l1, l2, some (.int x)] (.int x :: t) h Q := en_iload_n mm153 dX6_stateAfter_52 rfl
theorem i153_53 {d l0 l1 l3 t x h Q} : Ev d 153 53 [l0, l1, some (.int x), l3] t h Q = Ev d 153 54 [l0, l1, some (.int x), l3] (.int x :: t) h Q := en_iload_n mm153 dX6_stateAfter_53 rfl
theorem i153_54 {d l0 l1 l2 l3 t x y h Q} : Ev d 153 54 [l0, l1, l2, l3] (.int y :: .int x :: t) h Q = if y ≤ x then Ev d 153 67 [l0, l1, l2, l3] t h Q else Ev d 153 57 [l0, l1, l2, l3] t h Q := en_ic_ge mm153 dX6_stateAfter_54 rfl
theorem i153_57 {d a l1 l2 l3 t h Q} : Ev d 153 57 [some (.ref a), l1, l2, l3] t h Q = Ev d 153 58 [some (.ref a), l1, l2, l3] (.ref a :: t) h Q := en_aload_n mm153 dX6_stateAfter_57 rfl
theorem i153_58 {d a l0 l1 l2 l3 h Q} : Ev (d + 1) 153 58 [l0, l1, l2, l3] [.ref a] h Q = (hk h a = 7 ∧ EvM d 128 [.ref a] h (konN (d + 1) 153 61 [l0, l1, l2, l3] [] Q)) := en_virtualN mm153 dX6_stateAfter_58 (by decide +kernel : ml _ _ = some (2, 128)) (by decide) (rfl : mtab[128]? = some _) (by decide +kernel : npar _ = 0) rfl (by decide) rfl (of_decide_eq_true rfl) (len_cat (of_decide_eq_true rfl)) rfl rfl rfl
theorem i153_61 {d l0 l1 l2 t x h Q} : Ev d 153 61 [l0, l1, l2, some (.int x)] t h Q = Ev d 153 64 [l0, l1, nl l2, some (.int (x + 1))] t h Q := en_iinc mm153 dX6_stateAfter_61 rfl (by decide) rfl
theorem i153_64 {d l0 l1 l2 l3 t h Q} : Ev d 153 64 [l0, l1, l2, l3] t h Q = Ev d 153 52 [l0, l1, l2, l3] t h Q := en_goto mm153 dX6_stateAfter_64 rfl
theorem i153_67 {d a l1 l2 l3 t h Q} : Ev d 153 67 [some (.ref a), l1, l2, l3] t h Q = Ev d 153 68 [some (.ref a), l1, l2, l3] (.ref a :: t) h Q := en_aload_n mm153 dX6_stateAfter_67 rfl
theorem i153_68 {d l0 l2 l3 t x h Q} : Ev d 153 68 [l0, some (.int x), l2, l3] t h Q = Ev d 153 69 [l0, some (.int x), l2, l3] (.int x :: t) h Q := en_iload_n mm153 dX6_stateAfter_68 rfl
theorem i153_69 {d a l0 l1 l2 l3 x0 h Q} : Ev (d + 1) 153 69 [l0, l1, l2, l3] [x0, .ref a] h Q = (hk h a = 7 ∧ EvM d 119 [.ref a, x0] h (konN (d + 1) 153 72 [l0, l1, l2, l3] [] Q)) := en_virtualN mm153 dX6_stateAfter_69 (by decide +kernel : ml _ _ = some (2, 119)) (by decide) (rfl : mtab[119]? = some _) (by decide +kernel : npar _ = 1) rfl (by decide) rfl (of_decide_eq_true rfl) (len_cat (of_decide_eq_true rfl)) rfl rfl rfl
theorem i153_72 {d l0 l1 l2 l3 t x h Q} : Ev d 153 72 [l0, l1, l2, l3] (.int x :: t) h Q = Ev d 153 73 [l0, l1, nl l2, some (.int x)] t h Q := en_istore_n mm153 dX6_stateAfter_72 (of_decide_eq_true rfl) rfl
theorem i153_73 {d a l1 l2 l3 t h Q} : Ev d 153 73 [some (.ref a), l1, l2, l3] t h Q = Ev d 153 74 [some (.ref a), l1, l2, l3] (.ref a :: t) h Q := en_aload_n mm153 dX6_stateAfter_73 rfl
theorem i153_74 {d a l0 l1 l2 l3 t h Q} : Ev d 153 74 [l0, l1, l2, l3] (.ref a :: t) h Q = (hk h a = 7 ∧ Ev d 153 77 [l0, l1, l2, l3] (hF h a 10 :: t) h Q) := en_getfield mm153 dX6_stateAfter_74 (by decide +kernel)
theorem i153_77 {d a l1 l2 l3 t h Q} : Ev d 153 77 [some (.ref a), l1, l2, l3] t h Q = Ev d 153 78 [some (.ref a), l1, l2, l3] (.ref a :: t) h Q := en_aload_n mm153 dX6_stateAfter_77 rfl
theorem i153_78 {d a l0 l1 l2 l3 t h Q} : Ev d 153 78 [l0, l1, l2, l3] (.ref a :: t) h Q = (hk h a = 7 ∧ Ev d 153 81 [l0, l1, l2, l3] (hF h a 8 :: t) h Q) := en_getfield mm153 dX6_stateAfter_78 (by decide +kernel)
theorem i153_81 {d l0 l1 l2 l3 x0 x1 h Q} : Ev (d + 1) 153 81 [l0, l1, l2, l3] [x0, x1] h Q = EvM d 93 [x1, x0] h (konN (d + 1) 153 84 [l0, l1, l2, l3] [] Q) := en_staticN mm153 dX6_stateAfter_81 (by decide +kernel : ml _ _ = some (0, 93)) (by decide) (rfl : mtab[93]? = some _) (by decide +kernel : npar _ = 2) (of_decide_eq_true rfl) (len_cat (of_decide_eq_true rfl)) rfl rfl rfl
theorem i153_84 {d l0 l1 l2 t x h Q} : Ev d 153 84 [l0, l1, l2, some (.int x)] t h Q = Ev d 153 85 [l0, l1, l2, some (.int x)] (.int x :: t) h Q := en_iload_n mm153 dX6_stateAfter_84 rfl
theorem i153_85 {d l0 l1 l2 l3 x h Q} : Ev d 153 85 [l0, l1, l2, l3] [.int x] h Q = Q (.inl (some (.int x))) h := en_ireturnI mm153 dX6_stateAfter_85 rfl
abbrev em154 : MI := (yX6_doneWith, cX6_doneWith, 3, some .int, 6, [])
theorem mm154 : mtab[154]? = some em154 := rfl
theorem in154 {d : Nat} {h : AH} {K : AO → AH → Prop} {v0 : Nat} {v1 : Int32} : EvM d 154 [(.ref v0), (.int v1)] h K = Ev d 154 0 [some (.ref v0), some (.int v1), none] [] h K := evm_in mm154 (of_decide_eq_true rfl) rfl
theorem i154_0 {d a l1 l2 t h Q} : Ev d 154 0 [some (.ref a), l1, l2] t h Q = Ev d 154 1 [some (.ref a), l1, l2] (.ref a :: t) h Q := en_aload_n mm154 dX6_doneWith_0 rfl
theorem i154_1 {d a l0 l1 l2 t h Q} : Ev d 154 1 [l0, l1, l2] (.ref a :: t) h Q = (hk h a = 7 ∧ Ev d 154 4 [l0, l1, l2] (hF h a 8 :: t) h Q) := en_getfield mm154 dX6_doneWith_1 (by decide +kernel)
theorem i154_4 {d a l1 l2 t h Q} : Ev d 154 4 [some (.ref a), l1, l2] t h Q = Ev d 154 5 [some (.ref a), l1, l2] (.ref a :: t) h Q := en_aload_n mm154 dX6_doneWith_4 rfl
theorem i154_5 {d a l0 l1 l2 t h Q} : Ev d 154 5 [l0, l1, l2] (.ref a :: t) h Q = (hk h a = 7 ∧ Ev d 154 8 [l0, l1, l2] (hF h a 10 :: t) h Q) := en_getfield mm154 dX6_doneWith_5 (by decide +kernel)
theorem i154_8 {d l0 l1 l2 x0 x1 h Q} : Ev (d + 1) 154 8 [l0, l1, l2] [x0, x1] h Q = EvM d 93 [x1, x0] h (konN (d + 1) 154 11 [l0, l1, l2] [] Q) := en_staticN mm154 dX6_doneWith_8 (by decide +kernel : ml _ _ = some (0, 93)) (by decide) (rfl : mtab[93]? = some _) (by decide +kernel : npar _ = 2) (of_decide_eq_true rfl) (len_cat (of_decide_eq_true rfl)) rfl rfl rfl
theorem i154_11 {d a l1 l2 t h Q} : Ev d 154 11 [some (.ref a), l1, l2] t h Q = Ev d 154 12 [some (.ref a), l1, l2] (.ref a :: t) h Q := en_aload_n mm154 dX6_doneWith_11 rfl
theorem i154_12 {d a l0 l1 l2 t h Q} : Ev d 154 12 [l0, l1, l2] (.ref a :: t) h Q = (hk h a = 7 ∧ Ev d 154 15 [l0, l1, l2] (hF h a 8 :: t) h Q) := en_getfield mm154 dX6_doneWith_12 (by decide +kernel)
theorem i154_15 {d a l1 l2 t h Q} : Ev d 154 15 [some (.ref a), l1, l2] t h Q = Ev d 154 16 [some (.ref a), l1, l2] (.ref a :: t) h Q := en_aload_n mm154 dX6_doneWith_15 rfl
theorem i154_16 {d a l0 l1 l2 t h Q} : Ev d 154 16 [l0, l1, l2] (.ref a :: t) h Q = (hk h a = 7 ∧ Ev d 154 19 [l0, l1, l2] (hF h a 8 :: t) h Q) := en_getfield mm154 dX6_doneWith_16 (by decide +kernel)
theorem i154_19 {d l0 l1 l2 t h Q} : Ev d 154 19 [l0, l1, l2] t h Q = Ev d 154 20 [l0, l1, l2] (.int 0 :: t) h Q := en_iconst mm154 dX6_doneWith_19 (by decide)
theorem i154_20 {d a j l0 l1 l2 t h Q} : Ev d 154 20 [l0, l1, l2] (.int j :: .ref a :: t) h Q = (hk h a = 10 ∧ inb j (hl h a) ∧ Ev d 154 21 [l0, l1, l2] (.int (hA h a j.toNatClampNeg) :: t) h Q) := en_iaload mm154 dX6_doneWith_20
theorem i154_21 {d l0 l1 l2 t h Q} : Ev d 154 21 [l0, l1, l2] t h Q = Ev d 154 22 [l0, l1, l2] (.int 1 :: t) h Q := en_iconst mm154 dX6_doneWith_21 (by decide)
theorem i154_22 {d l0 l1 l2 t x y h Q} : Ev d 154 22 [l0, l1, l2] (.int y :: .int x :: t) h Q = Ev d 154 23 [l0, l1, l2] (.int (x - y) :: t) h Q := en_isub mm154 dX6_doneWith_22
theorem i154_23 {d l0 l1 l2 x0 x1 h Q} : Ev (d + 1) 154 23 [l0, l1, l2] [x0, x1] h Q = EvM d 94 [x0] h (konN (d + 1) 154 26 [l0, l1, l2] [x1] Q) := en_staticN mm154 dX6_doneWith_23 (by decide +kernel : ml _ _ = some (0, 94)) (by decide) (rfl : mtab[94]? = some _) (by decide +kernel : npar _ = 1) (of_decide_eq_true rfl) (len_cat (of_decide_eq_true rfl)) rfl rfl rfl
theorem i154_26 {d l0 l2 t x h Q} : Ev d 154 26 [l0, some (.int x), l2] t h Q = Ev d 154 27 [l0, some (.int x), l2] (.int x :: t) h Q := en_iload_n mm154 dX6_doneWith_26 rfl
theorem i154_27 {d a j l0 l1 l2 t x h Q} : Ev d 154 27 [l0, l1, l2] (.int x :: .int j :: .ref a :: t) h Q = (hk h a = 10 ∧ inb j (hl h a) ∧ Ev d 154 28 [l0, l1, l2] t (wA h a (upd (hA h a) j.toNatClampNeg x)) Q) := en_iastore mm154 dX6_doneWith_27
theorem i154_28 {d l0 l1 l2 t h Q} : Ev d 154 28 [l0, l1, l2] t h Q = Ev d 154 29 [l0, l1, l2] (.int 0 :: t) h Q := en_iconst mm154 dX6_doneWith_28 (by decide)
theorem i154_29 {d l0 l1 l2 t x h Q} : Ev d 154 29 [l0, l1, l2] (.int x :: t) h Q = Ev d 154 30 [l0, nl l1, some (.int x)] t h Q := en_istore_n mm154 dX6_doneWith_29 (of_decide_eq_true rfl) rfl
theorem i154_30 {d l0 l1 t x h Q} : Ev d 154 30 [l0, l1, some (.int x)] t h Q = Ev d 154 31 [l0, l1, some (.int x)] (.int x :: t) h Q := en_iload_n mm154 dX6_doneWith_30 rfl
theorem i154_31 {d l0 l1 l2 t h Q} : Ev d 154 31 [l0, l1, l2] t h Q = Ev d 154 34 [l0, l1, l2] (.int 200 :: t) h Q := en_sipush mm154 dX6_doneWith_31 (by decide)
theorem i154_34 {d l0 l1 l2 t x y h Q} : Ev d 154 34 [l0, l1, l2] (.int y :: .int x :: t) h Q = if y ≤ x then Ev d 154 47 [l0, l1, l2] t h Q else Ev d 154 37 [l0, l1, l2] t h Q := en_ic_ge mm154 dX6_doneWith_34 rfl
theorem i154_37 {d a l1 l2 t h Q} : Ev d 154 37 [some (.ref a), l1, l2] t h Q = Ev d 154 38 [some (.ref a), l1, l2] (.ref a :: t) h Q := en_aload_n mm154 dX6_doneWith_37 rfl
theorem i154_38 {d a l0 l1 l2 h Q} : Ev (d + 1) 154 38 [l0, l1, l2] [.ref a] h Q = (hk h a = 7 ∧ EvM d 128 [.ref a] h (konN (d + 1) 154 41 [l0, l1, l2] [] Q)) := en_virtualN mm154 dX6_doneWith_38 (by decide +kernel : ml _ _ = some (2, 128)) (by decide) (rfl : mtab[128]? = some _) (by decide +kernel : npar _ = 0) rfl (by decide) rfl (of_decide_eq_true rfl) (len_cat (of_decide_eq_true rfl)) rfl rfl rfl
theorem i154_41 {d l0 l1 t x h Q} : Ev d 154 41 [l0, l1, some (.int x)] t h Q = Ev d 154 44 [l0, nl l1, some (.int (x + 1))] t h Q := en_iinc mm154 dX6_doneWith_41 rfl (by decide) rfl
theorem i154_44 {d l0 l1 l2 t h Q} : Ev d 154 44 [l0, l1, l2] t h Q = Ev d 154 30 [l0, l1, l2] t h Q := en_goto mm154 dX6_doneWith_44 rfl
theorem i154_47 {d a l1 l2 t h Q} : Ev d 154 47 [some (.ref a), l1, l2] t h Q = Ev d 154 48 [some (.ref a), l1, l2] (.ref a :: t) h Q := en_aload_n mm154 dX6_doneWith_47 rfl
theorem i154_48 {d l0 l1 l2 t h Q} : Ev d 154 48 [l0, l1, l2] t h Q = Ev d 154 49 [l0, l1, l2] (.int 3 :: t) h Q := en_iconst mm154 dX6_doneWith_48 (by decide)
theorem i154_49 {d a l0 l1 l2 x0 h Q} : Ev (d + 1) 154 49 [l0, l1, l2] [x0, .ref a] h Q = (hk h a = 7 ∧ EvM d 129 [.ref a, x0] h (konN (d + 1) 154 52 [l0, l1, l2] [] Q)) := en_virtualN mm154 dX6_doneWith_49 (by decide +kernel : ml _ _ = some (2, 129)) (by decide) (rfl : mtab[129]? = some _) (by decide +kernel : npar _ = 1) rfl (by decide) rfl (of_decide_eq_true rfl) (len_cat (of_decide_eq_true rfl)) rfl rfl rfl
theorem i154_52 {d l0 l1 l2 t x h Q} : Ev d 154 52 [l0, l1, l2] (.int x :: t) h Q = Ev d 154 53 [l0, nl l1, some (.int x)] t h Q := en_istore_n mm154 dX6_doneWith_52 (of_decide_eq_true rfl) rfl
theorem i154_53 {d a l1 l2 t h Q} : Ev d 154 53 [some (.ref a), l1, l2] t h Q = Ev d 154 54 [some (.ref a), l1, l2] (.ref a :: t) h Q := en_aload_n mm154 dX6_doneWith_53 rfl
theorem i154_54 {d a l0 l1 l2 t h Q} : Ev d 154 54 [l0, l1, l2] (.ref a :: t) h Q = (hk h a = 7 ∧ Ev d 154 57 [l0, l1, l2] (hF h a 10 :: t) h Q) := en_getfield mm154 dX6_doneWith_54 (by decide +kernel)
theorem i154_57 {d a l1 l2 t h Q} : Ev d 154 57 [some (.ref a), l1, l2] t h Q = Ev d 154 58 [some (.ref a), l1, l2] (.ref a :: t) h Q := en_aload_n mm154 dX6_doneWith_57 rfl
theorem i154_58 {d a l0 l1 l2 t h Q} : Ev d 154 58 [l0, l1, l2] (.ref a :: t) h Q = (hk h a = 7 ∧ Ev d 154 61 [l0, l1, l2] (hF h a 8 :: t) h Q) := en_getfield mm154 dX6_doneWith_58 (by decide +kernel)
theorem i154_61 {d l0 l1 l2 x0 x1 h Q} : Ev (d + 1) 154 61 [l0, l1, l2] [x0, x1] h Q = EvM d 93 [x1, x0] h (konN (d + 1) 154 64 [l0, l1, l2] [] Q) := en_staticN mm154 dX6_doneWith_61 (by decide +kernel : ml _ _ = some (0, 93)) (by decide) (rfl : mtab[93]? = some _) (by decide +kernel : npar _ = 2) (of_decide_eq_true rfl) (len_cat (of_decide_eq_true rfl)) rfl rfl rfl
theorem i154_64 {d l0 l1 t x h Q} : Ev d 154 64 [l0, l1, some (.int x)] t h Q = Ev d 154 65 [l0, l1, some (.int x)] (.int x :: t) h Q := en_iload_n mm154 dX6_doneWith_64 rfl
theorem i154_65 {d l0 l1 l2 x h Q} : Ev d 154 65 [l0, l1, l2] [.int x] h Q = Q (.inl (some (.int x))) h := en_ireturnI mm154 dX6_doneWith_65 rfl
abbrev em155 : MI := (yX6_bestSetpoint, cX6_bestSetpoint, 7, some .int, 6, [])
theorem mm155 : mtab[155]? = some em155 := rfl
theorem in155 {d : Nat} {h : AH} {K : AO → AH → Prop} {v0 : Nat} : EvM d 155 [(.ref v0)] h K = Ev d 155 0 [some (.ref v0), none, none, none, none, none, none] [] h K := evm_in mm155 (of_decide_eq_true rfl) rfl
theorem i155_0 {d a l1 l2 l3 l4 l5 l6 t h Q} : Ev d 155 0 [some (.ref a), l1, l2, l3, l4, l5, l6] t h Q = Ev d 155 1 [some (.ref a), l1, l2, l3, l4, l5, l6] (.ref a :: t) h Q := en_aload_n mm155 dX6_bestSetpoint_0 rfl
theorem i155_1 {d l0 l1 l2 l3 l4 l5 l6 t h Q} : Ev d 155 1 [l0, l1, l2, l3, l4, l5, l6] t h Q = Ev d 155 2 [l0, l1, l2, l3, l4, l5, l6] (.int 0 :: t) h Q := en_iconst mm155 dX6_bestSetpoint_1 (by decide)
theorem i155_2 {d a l0 l1 l2 l3 l4 l5 l6 t x h Q} : Ev d 155 2 [l0, l1, l2, l3, l4, l5, l6] (.int x :: .ref a :: t) h Q = (hk h a = 7 ∧ Ev d 155 5 [l0, l1, l2, l3, l4, l5, l6] t (wF h a 0 (.int x)) Q) := en_putfield mm155 dX6_bestSetpoint_2 (by decide +kernel) rfl
theorem i155_5 {d a l1 l2 l3 l4 l5 l6 t h Q} : Ev d 155 5 [some (.ref a), l1, l2, l3, l4, l5, l6] t h Q = Ev d 155 6 [some (.ref a), l1, l2, l3, l4, l5, l6] (.ref a :: t) h Q := en_aload_n mm155 dX6_bestSetpoint_5 rfl
theorem i155_6 {d a l0 l1 l2 l3 l4 l5 l6 h Q} : Ev (d + 1) 155 6 [l0, l1, l2, l3, l4, l5, l6] [.ref a] h Q = (hk h a = 7 ∧ EvM d 134 [.ref a] h (konN (d + 1) 155 9 [l0, l1, l2, l3, l4, l5, l6] [] Q)) := en_virtualN mm155 dX6_bestSetpoint_6 (by decide +kernel : ml _ _ = some (2, 134)) (by decide) (rfl : mtab[134]? = some _) (by decide +kernel : npar _ = 0) rfl (by decide) rfl (of_decide_eq_true rfl) (len_cat (of_decide_eq_true rfl)) rfl rfl rfl
theorem i155_9 {d l0 l1 l2 l3 l4 l5 l6 t x h Q} : Ev d 155 9 [l0, l1, l2, l3, l4, l5, l6] (.int x :: t) h Q = if x = 0 then Ev d 155 14 [l0, l1, l2, l3, l4, l5, l6] t h Q else Ev d 155 12 [l0, l1, l2, l3, l4, l5, l6] t h Q := en_if_eq mm155 dX6_bestSetpoint_9 rfl
theorem i155_12 {d l0 l1 l2 l3 l4 l5 l6 t h Q} : Ev d 155 12 [l0, l1, l2, l3, l4, l5, l6] t h Q = Ev d 155 13 [l0, l1, l2, l3, l4, l5, l6] (.int (-1) :: t) h Q := en_iconst mm155 dX6_bestSetpoint_12 (by decide)
theorem i155_13 {d l0 l1 l2 l3 l4 l5 l6 x h Q} : Ev d 155 13 [l0, l1, l2, l3, l4, l5, l6] [.int x] h Q = Q (.inl (some (.int x))) h := en_ireturnI mm155 dX6_bestSetpoint_13 rfl
theorem i155_14 {d a l1 l2 l3 l4 l5 l6 t h Q} : Ev d 155 14 [some (.ref a), l1, l2, l3, l4, l5, l6] t h Q = Ev d 155 15 [some (.ref a), l1, l2, l3, l4, l5, l6] (.ref a :: t) h Q := en_aload_n mm155 dX6_bestSetpoint_14 rfl
theorem i155_15 {d a l0 l1 l2 l3 l4 l5 l6 t h Q} : Ev d 155 15 [l0, l1, l2, l3, l4, l5, l6] (.ref a :: t) h Q = (hk h a = 7 ∧ Ev d 155 18 [l0, l1, l2, l3, l4, l5, l6] (hF h a 8 :: t) h Q) := en_getfield mm155 dX6_bestSetpoint_15 (by decide +kernel)
theorem i155_18 {d a l1 l2 l3 l4 l5 l6 t h Q} : Ev d 155 18 [some (.ref a), l1, l2, l3, l4, l5, l6] t h Q = Ev d 155 19 [some (.ref a), l1, l2, l3, l4, l5, l6] (.ref a :: t) h Q := en_aload_n mm155 dX6_bestSetpoint_18 rfl
theorem i155_19 {d a l0 l1 l2 l3 l4 l5 l6 t h Q} : Ev d 155 19 [l0, l1, l2, l3, l4, l5, l6] (.ref a :: t) h Q = (hk h a = 7 ∧ Ev d 155 22 [l0, l1, l2, l3, l4, l5, l6] (hF h a 8 :: t) h Q) := en_getfield mm155 dX6_bestSetpoint_19 (by decide +kernel)
theorem i155_22 {d l0 l1 l2 l3 l4 l5 l6 t h Q} : Ev d 155 22 [l0, l1, l2, l3, l4, l5, l6] t h Q = Ev d 155 23 [l0, l1, l2, l3, l4, l5, l6] (.int 0 :: t) h Q := en_iconst mm155 dX6_bestSetpoint_22 (by decide)
theorem i155_23 {d a j l0 l1 l2 l3 l4 l5 l6 t h Q} : Ev d 155 23 [l0, l1, l2, l3, l4, l5, l6] (.int j :: .ref a :: t) h Q = (hk h a = 10 ∧ inb j (hl h a) ∧ Ev d 155 24 [l0, l1, l2, l3, l4, l5, l6] (.int (hA h a j.toNatClampNeg) :: t) h Q) := en_iaload mm155 dX6_bestSetpoint_23
theorem i155_24 {d l0 l1 l2 l3 l4 l5 l6 t h Q} : Ev d 155 24 [l0, l1, l2, l3, l4, l5, l6] t h Q = Ev d 155 25 [l0, l1, l2, l3, l4, l5, l6] (.int 1 :: t) h Q := en_iconst mm155 dX6_bestSetpoint_24 (by decide)
theorem i155_25 {d l0 l1 l2 l3 l4 l5 l6 t x y h Q} : Ev d 155 25 [l0, l1, l2, l3, l4, l5, l6] (.int y :: .int x :: t) h Q = Ev d 155 26 [l0, l1, l2, l3, l4, l5, l6] (.int (x - y) :: t) h Q := en_isub mm155 dX6_bestSetpoint_25
theorem i155_26 {d l0 l1 l2 l3 l4 l5 l6 x0 x1 h Q} : Ev (d + 1) 155 26 [l0, l1, l2, l3, l4, l5, l6] [x0, x1] h Q = EvM d 94 [x0] h (konN (d + 1) 155 29 [l0, l1, l2, l3, l4, l5, l6] [x1] Q) := en_staticN mm155 dX6_bestSetpoint_26 (by decide +kernel : ml _ _ = some (0, 94)) (by decide) (rfl : mtab[94]? = some _) (by decide +kernel : npar _ = 1) (of_decide_eq_true rfl) (len_cat (of_decide_eq_true rfl)) rfl rfl rfl
theorem i155_29 {d a j l0 l1 l2 l3 l4 l5 l6 t h Q} : Ev d 155 29 [l0, l1, l2, l3, l4, l5, l6] (.int j :: .ref a :: t) h Q = (hk h a = 10 ∧ inb j (hl h a) ∧ Ev d 155 30 [l0, l1, l2, l3, l4, l5, l6] (.int (hA h a j.toNatClampNeg) :: t) h Q) := en_iaload mm155 dX6_bestSetpoint_29
theorem i155_30 {d l0 l1 l2 l3 l4 l5 l6 t x h Q} : Ev d 155 30 [l0, l1, l2, l3, l4, l5, l6] (.int x :: t) h Q = Ev d 155 31 [nl l0, some (.int x), l2, l3, l4, l5, l6] t h Q := en_istore_n mm155 dX6_bestSetpoint_30 (of_decide_eq_true rfl) rfl
theorem i155_31 {d l0 l2 l3 l4 l5 l6 t x h Q} : Ev d 155 31 [l0, some (.int x), l2, l3, l4, l5, l6] t h Q = Ev d 155 32 [l0, some (.int x), l2, l3, l4, l5, l6] (.int x :: t) h Q := en_iload_n mm155 dX6_bestSetpoint_31 rfl
theorem i155_32 {d l0 l1 l2 l3 l4 l5 l6 t x h Q} : Ev d 155 32 [l0, l1, l2, l3, l4, l5, l6] (.int x :: t) h Q = Ev d 155 33 [l0, nl l1, some (.int x), l3, l4, l5, l6] t h Q := en_istore_n mm155 dX6_bestSetpoint_32 (of_decide_eq_true rfl) rfl
theorem i155_33 {d a l1 l2 l3 l4 l5 l6 t h Q} : Ev d 155 33 [some (.ref a), l1, l2, l3, l4, l5, l6] t h Q = Ev d 155 34 [some (.ref a), l1, l2, l3, l4, l5, l6] (.ref a :: t) h Q := en_aload_n mm155 dX6_bestSetpoint_33 rfl
theorem i155_34 {d l0 l2 l3 l4 l5 l6 t x h Q} : Ev d 155 34 [l0, some (.int x), l2, l3, l4, l5, l6] t h Q = Ev d 155 35 [l0, some (.int x), l2, l3, l4, l5, l6] (.int x :: t) h Q := en_iload_n mm155 dX6_bestSetpoint_34 rfl
theorem i155_35 {d a l0 l1 l2 l3 l4 l5 l6 x0 h Q} : Ev (d + 1) 155 35 [l0, l1, l2, l3, l4, l5, l6] [x0, .ref a] h Q = (hk h a = 7 ∧ EvM d 154 [.ref a, x0] h (konN (d + 1) 155 38 [l0, l1, l2, l3, l4, l5, l6] [] Q)) := en_virtualN mm155 dX6_bestSetpoint_35 (by decide +kernel : ml _ _ = some (2, 154)) (by decide) (rfl : mtab[154]? = some _) (by decide +kernel : npar _ = 1) rfl (by decide) rfl (of_decide_eq_true rfl) (len_cat (of_decide_eq_true rfl)) rfl rfl rfl
theorem i155_38 {d l0 l1 l2 l3 l4 l5 l6 t x h Q} : Ev d 155 38 [l0, l1, l2, l3, l4, l5, l6] (.int x :: t) h Q = Ev d 155 39 [l0, l1, nl l2, some (.int x), l4, l5, l6] t h Q := en_istore_n mm155 dX6_bestSetpoint_38 (of_decide_eq_true rfl) rfl
theorem i155_39 {d l0 l1 l2 l3 l4 l5 l6 t h Q} : Ev d 155 39 [l0, l1, l2, l3, l4, l5, l6] t h Q = Ev d 155 40 [l0, l1, l2, l3, l4, l5, l6] (.int 2 :: t) h Q := en_iconst mm155 dX6_bestSetpoint_39 (by decide)
theorem i155_40 {d l0 l1 l2 l3 l4 l5 l6 t x h Q} : Ev d 155 40 [l0, l1, l2, l3, l4, l5, l6] (.int x :: t) h Q = Ev d 155 42 [l0, l1, l2, nl l3, some (.int x), l5, l6] t h Q := en_istore mm155 dX6_bestSetpoint_40 (of_decide_eq_true rfl) rfl
theorem i155_42 {d l0 l1 l2 l3 l5 l6 t x h Q} : Ev d 155 42 [l0, l1, l2, l3, some (.int x), l5, l6] t h Q = Ev d 155 44 [l0, l1, l2, l3, some (.int x), l5, l6] (.int x :: t) h Q := en_iload mm155 dX6_bestSetpoint_42 rfl
theorem i155_44 {d l0 l1 l2 l3 l4 l5 l6 t h Q} : Ev d 155 44 [l0, l1, l2, l3, l4, l5, l6] t h Q = Ev d 155 46 [l0, l1, l2, l3, l4, l5, l6] (.int 8 :: t) h Q := en_bipush mm155 dX6_bestSetpoint_44 (by decide)
theorem i155_46 {d l0 l1 l2 l3 l4 l5 l6 t x y h Q} : Ev d 155 46 [l0, l1, l2, l3, l4, l5, l6] (.int y :: .int x :: t) h Q = if y ≤ x then Ev d 155 118 [l0, l1, l2, l3, l4, l5, l6] t h Q else Ev d 155 49 [l0, l1, l2, l3, l4, l5, l6] t h Q := en_ic_ge mm155 dX6_bestSetpoint_46 rfl
theorem i155_49 {d l0 l2 l3 l4 l5 l6 t x h Q} : Ev d 155 49 [l0, some (.int x), l2, l3, l4, l5, l6] t h Q = Ev d 155 50 [l0, some (.int x), l2, l3, l4, l5, l6] (.int x :: t) h Q := en_iload_n mm155 dX6_bestSetpoint_49 rfl
theorem i155_50 {d l0 l1 l2 l3 l4 l5 l6 t h Q} : Ev d 155 50 [l0, l1, l2, l3, l4, l5, l6] t h Q = Ev d 155 52 [l0, l1, l2, l3, l4, l5, l6] (.int 10 :: t) h Q := en_bipush mm155 dX6_bestSetpoint_50 (by decide)
theorem i155_52 {d l0 l1 l2 l3 l5 l6 t x h Q} : Ev d 155 52 [l0, l1, l2, l3, some (.int x), l5, l6] t h Q = Ev d 155 54 [l0, l1, l2, l3, some (.int x), l5, l6] (.int x :: t) h Q := en_iload mm155 dX6_bestSetpoint_52 rfl
theorem i155_54 {d l0 l1 l2 l3 l4 l5 l6 t h Q} : Ev d 155 54 [l0, l1, l2, l3, l4, l5, l6] t h Q = Ev d 155 55 [l0, l1, l2, l3, l4, l5, l6] (.int 2 :: t) h Q := en_iconst mm155 dX6_bestSetpoint_54 (by decide)
theorem i155_55 {d l0 l1 l2 l3 l4 l5 l6 t x y h Q} : Ev d 155 55 [l0, l1, l2, l3, l4, l5, l6] (.int y :: .int x :: t) h Q = (¬ y = 0 ∧ Ev d 155 56 [l0, l1, l2, l3, l4, l5, l6] (.int (x / y) :: t) h Q) := en_idiv mm155 dX6_bestSetpoint_55
theorem i155_56 {d l0 l1 l2 l3 l4 l5 l6 t x y h Q} : Ev d 155 56 [l0, l1, l2, l3, l4, l5, l6] (.int y :: .int x :: t) h Q = Ev d 155 57 [l0, l1, l2, l3, l4, l5, l6] (.int (x * y) :: t) h Q := en_imul mm155 dX6_bestSetpoint_56
theorem i155_57 {d l0 l1 l2 l3 l5 l6 t x h Q} : Ev d 155 57 [l0, l1, l2, l3, some (.int x), l5, l6] t h Q = Ev d 155 59 [l0, l1, l2, l3, some (.int x), l5, l6] (.int x :: t) h Q := en_iload mm155 dX6_bestSetpoint_57 rfl
theorem i155_59 {d l0 l1 l2 l3 l4 l5 l6 t h Q} : Ev d 155 59 [l0, l1, l2, l3, l4, l5, l6] t h Q = Ev d 155 60 [l0, l1, l2, l3, l4, l5, l6] (.int 2 :: t) h Q := en_iconst mm155 dX6_bestSetpoint_59 (by decide)
theorem i155_60 {d l0 l1 l2 l3 l4 l5 l6 t x y h Q} : Ev d 155 60 [l0, l1, l2, l3, l4, l5, l6] (.int y :: .int x :: t) h Q = (¬ y = 0 ∧ Ev d 155 61 [l0, l1, l2, l3, l4, l5, l6] (.int (x - x / y * y) :: t) h Q) := en_irem mm155 dX6_bestSetpoint_60
theorem i155_61 {d l0 l1 l2 l3 l4 l5 l6 t x h Q} : Ev d 155 61 [l0, l1, l2, l3, l4, l5, l6] (.int x :: t) h Q = if x = 0 then Ev d 155 64 [l0, l1, l2, l3, l4, l5, l6] t h Q else Ev d 155 68 [l0, l1, l2, l3, l4, l5, l6] t h Q := en_if_ne mm155 dX6_bestSetpoint_61 rfl
theorem i155_64 {d l0 l1 l2 l3 l4 l5 l6 t h Q} : Ev d 155 64 [l0, l1, l2, l3, l4, l5, l6] t h Q = Ev d 155 65 [l0, l1, l2, l3, l4, l5, l6] (.int (-1) :: t) h Q := en_iconst mm155 dX6_bestSetpoint_64 (by decide)
theorem i155_65 {d l0 l1 l2 l3 l4 l5 l6 t h Q} : Ev d 155 65 [l0, l1, l2, l3, l4, l5, l6] t h Q = Ev d 155 69 [l0, l1, l2, l3, l4, l5, l6] t h Q := en_goto mm155 dX6_bestSetpoint_65 rfl
theorem i155_68 {d l0 l1 l2 l3 l4 l5 l6 t h Q} : Ev d 155 68 [l0, l1, l2, l3, l4, l5, l6] t h Q = Ev d 155 69 [l0, l1, l2, l3, l4, l5, l6] (.int 1 :: t) h Q := en_iconst mm155 dX6_bestSetpoint_68 (by decide)
theorem i155_69 {d l0 l1 l2 l3 l4 l5 l6 t x y h Q} : Ev d 155 69 [l0, l1, l2, l3, l4, l5, l6] (.int y :: .int x :: t) h Q = Ev d 155 70 [l0, l1, l2, l3, l4, l5, l6] (.int (x * y) :: t) h Q := en_imul mm155 dX6_bestSetpoint_69
theorem i155_70 {d l0 l1 l2 l3 l4 l5 l6 t x y h Q} : Ev d 155 70 [l0, l1, l2, l3, l4, l5, l6] (.int y :: .int x :: t) h Q = Ev d 155 71 [l0, l1, l2, l3, l4, l5, l6] (.int (x + y) :: t) h Q := en_iadd mm155 dX6_bestSetpoint_70
theorem i155_71 {d l0 l1 l2 l3 l4 l5 l6 t x h Q} : Ev d 155 71 [l0, l1, l2, l3, l4, l5, l6] (.int x :: t) h Q = Ev d 155 73 [l0, l1, l2, l3, nl l4, some (.int x), l6] t h Q := en_istore mm155 dX6_bestSetpoint_71 (of_decide_eq_true rfl) rfl
theorem i155_73 {d l0 l1 l2 l3 l4 l6 t x h Q} : Ev d 155 73 [l0, l1, l2, l3, l4, some (.int x), l6] t h Q = Ev d 155 75 [l0, l1, l2, l3, l4, some (.int x), l6] (.int x :: t) h Q := en_iload mm155 dX6_bestSetpoint_73 rfl
theorem i155_75 {d l0 l1 l2 l3 l4 l5 l6 t h Q} : Ev d 155 75 [l0, l1, l2, l3, l4, l5, l6] t h Q = Ev d 155 77 [l0, l1, l2, l3, l4, l5, l6] (.int 100 :: t) h Q := en_bipush mm155 dX6_bestSetpoint_75 (by decide)
theorem i155_77 {d l0 l1 l2 l3 l4 l5 l6 t h Q} : Ev d 155 77 [l0, l1, l2, l3, l4, l5, l6] t h Q = Ev d 155 80 [l0, l1, l2, l3, l4, l5, l6] (.int 900 :: t) h Q := en_sipush mm155 dX6_bestSetpoint_77 (by decide)
theorem i155_80 {d l0 l1 l2 l3 l4 l5 l6 x0 x1 x2 h Q} : Ev (d + 1) 155 80 [l0, l1, l2, l3, l4, l5, l6] [x0, x1, x2] h Q = EvM d 90 [x2, x1, x0] h (konN (d + 1) 155 83 [l0, l1, l2, l3, l4, l5, l6] [] Q) := en_staticN mm155 dX6_bestSetpoint_80 (by decide +kernel : ml _ _ = some (0, 90)) (by decide) (rfl : mtab[90]? = some _) (by decide +kernel : npar _ = 3) (of_decide_eq_true rfl) (len_cat (of_decide_eq_true rfl)) rfl rfl rfl
theorem i155_83 {d l0 l1 l2 l3 l4 l5 l6 t x h Q} : Ev d 155 83 [l0, l1, l2, l3, l4, l5, l6] (.int x :: t) h Q = if x = 0 then Ev d 155 86 [l0, l1, l2, l3, l4, l5, l6] t h Q else Ev d 155 89 [l0, l1, l2, l3, l4, l5, l6] t h Q := en_if_ne mm155 dX6_bestSetpoint_83 rfl
theorem i155_86 {d l0 l1 l2 l3 l4 l5 l6 t h Q} : Ev d 155 86 [l0, l1, l2, l3, l4, l5, l6] t h Q = Ev d 155 112 [l0, l1, l2, l3, l4, l5, l6] t h Q := en_goto mm155 dX6_bestSetpoint_86 rfl
theorem i155_89 {d a l1 l2 l3 l4 l5 l6 t h Q} : Ev d 155 89 [some (.ref a), l1, l2, l3, l4, l5, l6] t h Q = Ev d 155 90 [some (.ref a), l1, l2, l3, l4, l5, l6] (.ref a :: t) h Q := en_aload_n mm155 dX6_bestSetpoint_89 rfl
theorem i155_90 {d l0 l1 l2 l3 l4 l6 t x h Q} : Ev d 155 90 [l0, l1, l2, l3, l4, some (.int x), l6] t h Q = Ev d 155 92 [l0, l1, l2, l3, l4, some (.int x), l6] (.int x :: t) h Q := en_iload mm155 dX6_bestSetpoint_90 rfl
theorem i155_92 {d a l0 l1 l2 l3 l4 l5 l6 x0 h Q} : Ev (d + 1) 155 92 [l0, l1, l2, l3, l4, l5, l6] [x0, .ref a] h Q = (hk h a = 7 ∧ EvM d 154 [.ref a, x0] h (konN (d + 1) 155 95 [l0, l1, l2, l3, l4, l5, l6] [] Q)) := en_virtualN mm155 dX6_bestSetpoint_92 (by decide +kernel : ml _ _ = some (2, 154)) (by decide) (rfl : mtab[154]? = some _) (by decide +kernel : npar _ = 1) rfl (by decide) rfl (of_decide_eq_true rfl) (len_cat (of_decide_eq_true rfl)) rfl rfl rfl
theorem i155_95 {d l0 l1 l2 l3 l4 l5 l6 t x h Q} : Ev d 155 95 [l0, l1, l2, l3, l4, l5, l6] (.int x :: t) h Q = Ev d 155 97 [l0, l1, l2, l3, l4, nl l5, some (.int x)] t h Q := en_istore mm155 dX6_bestSetpoint_95 (of_decide_eq_true rfl) rfl
theorem i155_97 {d l0 l1 l2 l3 l4 l5 t x h Q} : Ev d 155 97 [l0, l1, l2, l3, l4, l5, some (.int x)] t h Q = Ev d 155 99 [l0, l1, l2, l3, l4, l5, some (.int x)] (.int x :: t) h Q := en_iload mm155 dX6_bestSetpoint_97 rfl
theorem i155_99 {d l0 l1 l2 l4 l5 l6 t x h Q} : Ev d 155 99 [l0, l1, l2, some (.int x), l4, l5, l6] t h Q = Ev d 155 100 [l0, l1, l2, some (.int x), l4, l5, l6] (.int x :: t) h Q := en_iload_n mm155 dX6_bestSetpoint_99 rfl
theorem i155_100 {d l0 l1 l2 l3 l4 l5 l6 t x y h Q} : Ev d 155 100 [l0, l1, l2, l3, l4, l5, l6] (.int y :: .int x :: t) h Q = if y < x then Ev d 155 106 [l0, l1, l2, l3, l4, l5, l6] t h Q else Ev d 155 103 [l0, l1, l2, l3, l4, l5, l6] t h Q := en_ic_gt mm155 dX6_bestSetpoint_100 rfl
theorem i155_103 {d l0 l1 l2 l3 l4 l5 l6 t h Q} : Ev d 155 103 [l0, l1, l2, l3, l4, l5, l6] t h Q = Ev d 155 112 [l0, l1, l2, l3, l4, l5, l6] t h Q := en_goto mm155 dX6_bestSetpoint_103 rfl
theorem i155_106 {d l0 l1 l2 l3 l4 l5 t x h Q} : Ev d 155 106 [l0, l1, l2, l3, l4, l5, some (.int x)] t h Q = Ev d 155 108 [l0, l1, l2, l3, l4, l5, some (.int x)] (.int x :: t) h Q := en_iload mm155 dX6_bestSetpoint_106 rfl
theorem i155_108 {d l0 l1 l2 l3 l4 l5 l6 t x h Q} : Ev d 155 108 [l0, l1, l2, l3, l4, l5, l6] (.int x :: t) h Q = Ev d 155 109 [l0, l1, nl l2, some (.int x), l4, l5, l6] t h Q := en_istore_n mm155 dX6_bestSetpoint_108 (of_decide_eq_true rfl) rfl
theorem i155_109 {d l0 l1 l2 l3 l4 l6 t x h Q} : Ev d 155 109 [l0, l1, l2, l3, l4, some (.int x), l6] t h Q = Ev d 155 111 [l0, l1, l2, l3, l4, some (.int x), l6] (.int x :: t) h Q := en_iload mm155 dX6_bestSetpoint_109 rfl
theorem i155_111 {d l0 l1 l2 l3 l4 l5 l6 t x h Q} : Ev d 155 111 [l0, l1, l2, l3, l4, l5, l6] (.int x :: t) h Q = Ev d 155 112 [l0, nl l1, some (.int x), l3, l4, l5, l6] t h Q := en_istore_n mm155 dX6_bestSetpoint_111 (of_decide_eq_true rfl) rfl
theorem i155_112 {d l0 l1 l2 l3 l5 l6 t x h Q} : Ev d 155 112 [l0, l1, l2, l3, some (.int x), l5, l6] t h Q = Ev d 155 115 [l0, l1, l2, nl l3, some (.int (x + 1)), l5, l6] t h Q := en_iinc mm155 dX6_bestSetpoint_112 rfl (by decide) rfl
theorem i155_115 {d l0 l1 l2 l3 l4 l5 l6 t h Q} : Ev d 155 115 [l0, l1, l2, l3, l4, l5, l6] t h Q = Ev d 155 42 [l0, l1, l2, l3, l4, l5, l6] t h Q := en_goto mm155 dX6_bestSetpoint_115 rfl
theorem i155_118 {d l0 l1 l3 l4 l5 l6 t x h Q} : Ev d 155 118 [l0, l1, some (.int x), l3, l4, l5, l6] t h Q = Ev d 155 119 [l0, l1, some (.int x), l3, l4, l5, l6] (.int x :: t) h Q := en_iload_n mm155 dX6_bestSetpoint_118 rfl
theorem i155_119 {d l0 l1 l2 l3 l4 l5 l6 x h Q} : Ev d 155 119 [l0, l1, l2, l3, l4, l5, l6] [.int x] h Q = Q (.inl (some (.int x))) h := en_ireturnI mm155 dX6_bestSetpoint_119 rfl
