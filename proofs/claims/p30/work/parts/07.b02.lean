/-! AN EQUATION FOR EACH INSTRUCTION -/
abbrev em42 : MI := (yX4_readFactor, cX4_readFactor, 2, some .boolean, 4, [])
theorem mm42 : mtab[42]? = some em42 := rfl
theorem in42 {d : Nat} {h : AH} {K : AO → AH → Prop} {v0 : Nat} {v1 : Int32} : EvM d 42 [(.ref v0), (.int v1)] h K = Ev d 42 0 [some (.ref v0), some (.int v1)] [] h K := evm_in mm42 (of_decide_eq_true rfl) rfl
theorem i42_0 {d a l1 t h Q} : Ev d 42 0 [some (.ref a), l1] t h Q = Ev d 42 1 [some (.ref a), l1] (.ref a :: t) h Q := en_aload_n mm42 dX4_readFactor_0 rfl
theorem i42_1 {d l0 l1 t h Q} : Ev d 42 1 [l0, l1] t h Q = Ev d 42 3 [l0, l1] (.int 40 :: t) h Q := en_bipush mm42 dX4_readFactor_1 (by decide)
theorem i42_3 {d a l0 l1 x0 h Q} : Ev (d + 1) 42 3 [l0, l1] [x0, .ref a] h Q = (hk h a = 5 ∧ EvM d 46 [.ref a, x0] h (konN (d + 1) 42 6 [l0, l1] [] Q)) := en_virtualN mm42 dX4_readFactor_3 (by decide +kernel : ml _ _ = some (2, 46)) (by decide) (rfl : mtab[46]? = some _) (by decide +kernel : npar _ = 1) rfl (by decide) rfl (of_decide_eq_true rfl) (len_cat (of_decide_eq_true rfl)) rfl rfl rfl
theorem i42_6 {d l0 l1 t x h Q} : Ev d 42 6 [l0, l1] (.int x :: t) h Q = if x = 0 then Ev d 42 50 [l0, l1] t h Q else Ev d 42 9 [l0, l1] t h Q := en_if_eq mm42 dX4_readFactor_6 rfl
theorem i42_9 {d l0 t x h Q} : Ev d 42 9 [l0, some (.int x)] t h Q = Ev d 42 10 [l0, some (.int x)] (.int x :: t) h Q := en_iload_n mm42 dX4_readFactor_9 rfl
theorem i42_10 {d l0 l1 t h Q} : Ev d 42 10 [l0, l1] t h Q = Ev d 42 11 [l0, l1] (.int 4 :: t) h Q := en_iconst mm42 dX4_readFactor_10 (by decide)
theorem i42_11 {d l0 l1 t x y h Q} : Ev d 42 11 [l0, l1] (.int y :: .int x :: t) h Q = if x < y then Ev d 42 21 [l0, l1] t h Q else Ev d 42 14 [l0, l1] t h Q := en_ic_lt mm42 dX4_readFactor_11 rfl
theorem i42_14 {d a l1 t h Q} : Ev d 42 14 [some (.ref a), l1] t h Q = Ev d 42 15 [some (.ref a), l1] (.ref a :: t) h Q := en_aload_n mm42 dX4_readFactor_14 rfl
theorem i42_15 {d l0 l1 t h Q} : Ev d 42 15 [l0, l1] t h Q = Ev d 42 17 [l0, l1] (.int (-5) :: t) h Q := en_bipush mm42 dX4_readFactor_15 (by decide)
theorem i42_17 {d a l0 l1 x0 h Q} : Ev (d + 1) 42 17 [l0, l1] [x0, .ref a] h Q = (hk h a = 5 ∧ EvM d 34 [.ref a, x0] h (konN (d + 1) 42 20 [l0, l1] [] Q)) := en_virtualN mm42 dX4_readFactor_17 (by decide +kernel : ml _ _ = some (2, 34)) (by decide) (rfl : mtab[34]? = some _) (by decide +kernel : npar _ = 1) rfl (by decide) rfl (of_decide_eq_true rfl) (len_cat (of_decide_eq_true rfl)) rfl rfl rfl
theorem i42_20 {d l0 l1 x h Q} : Ev d 42 20 [l0, l1] [.int x] h Q = (narrow .boolean (.int x) = .int x ∧ Q (.inl (some (.int x))) h) := en_ireturn mm42 dX4_readFactor_20 rfl
theorem i42_21 {d a l1 t h Q} : Ev d 42 21 [some (.ref a), l1] t h Q = Ev d 42 22 [some (.ref a), l1] (.ref a :: t) h Q := en_aload_n mm42 dX4_readFactor_21 rfl
theorem i42_22 {d a l0 l1 h Q} : Ev (d + 1) 42 22 [l0, l1] [.ref a] h Q = (hk h a = 5 ∧ EvM d 48 [.ref a] h (konN (d + 1) 42 25 [l0, l1] [] Q)) := en_virtualN mm42 dX4_readFactor_22 (by decide +kernel : ml _ _ = some (2, 48)) (by decide) (rfl : mtab[48]? = some _) (by decide +kernel : npar _ = 0) rfl (by decide) rfl (of_decide_eq_true rfl) (len_cat (of_decide_eq_true rfl)) rfl rfl rfl
theorem i42_25 {d a l1 t h Q} : Ev d 42 25 [some (.ref a), l1] t h Q = Ev d 42 26 [some (.ref a), l1] (.ref a :: t) h Q := en_aload_n mm42 dX4_readFactor_25 rfl
theorem i42_26 {d l0 t x h Q} : Ev d 42 26 [l0, some (.int x)] t h Q = Ev d 42 27 [l0, some (.int x)] (.int x :: t) h Q := en_iload_n mm42 dX4_readFactor_26 rfl
theorem i42_27 {d l0 l1 t h Q} : Ev d 42 27 [l0, l1] t h Q = Ev d 42 28 [l0, l1] (.int 1 :: t) h Q := en_iconst mm42 dX4_readFactor_27 (by decide)
theorem i42_28 {d l0 l1 t x y h Q} : Ev d 42 28 [l0, l1] (.int y :: .int x :: t) h Q = Ev d 42 29 [l0, l1] (.int (x + y) :: t) h Q := en_iadd mm42 dX4_readFactor_28
theorem i42_29 {d a l0 l1 x0 h Q} : Ev (d + 1) 42 29 [l0, l1] [x0, .ref a] h Q = (hk h a = 5 ∧ EvM d 40 [.ref a, x0] h (konN (d + 1) 42 32 [l0, l1] [] Q)) := en_virtualN mm42 dX4_readFactor_29 (by decide +kernel : ml _ _ = some (2, 40)) (by decide) (rfl : mtab[40]? = some _) (by decide +kernel : npar _ = 1) rfl (by decide) rfl (of_decide_eq_true rfl) (len_cat (of_decide_eq_true rfl)) rfl rfl rfl
theorem i42_32 {d l0 l1 t x h Q} : Ev d 42 32 [l0, l1] (.int x :: t) h Q = if x = 0 then Ev d 42 48 [l0, l1] t h Q else Ev d 42 35 [l0, l1] t h Q := en_if_eq mm42 dX4_readFactor_32 rfl
theorem i42_35 {d a l1 t h Q} : Ev d 42 35 [some (.ref a), l1] t h Q = Ev d 42 36 [some (.ref a), l1] (.ref a :: t) h Q := en_aload_n mm42 dX4_readFactor_35 rfl
theorem i42_36 {d l0 l1 t h Q} : Ev d 42 36 [l0, l1] t h Q = Ev d 42 38 [l0, l1] (.int 41 :: t) h Q := en_bipush mm42 dX4_readFactor_36 (by decide)
theorem i42_38 {d a l0 l1 x0 h Q} : Ev (d + 1) 42 38 [l0, l1] [x0, .ref a] h Q = (hk h a = 5 ∧ EvM d 45 [.ref a, x0] h (konN (d + 1) 42 41 [l0, l1] [] Q)) := en_virtualN mm42 dX4_readFactor_38 (by decide +kernel : ml _ _ = some (2, 45)) (by decide) (rfl : mtab[45]? = some _) (by decide +kernel : npar _ = 1) rfl (by decide) rfl (of_decide_eq_true rfl) (len_cat (of_decide_eq_true rfl)) rfl rfl rfl
theorem i42_41 {d l0 l1 t x h Q} : Ev d 42 41 [l0, l1] (.int x :: t) h Q = if x = 0 then Ev d 42 48 [l0, l1] t h Q else Ev d 42 44 [l0, l1] t h Q := en_if_eq mm42 dX4_readFactor_41 rfl
theorem i42_44 {d l0 l1 t h Q} : Ev d 42 44 [l0, l1] t h Q = Ev d 42 45 [l0, l1] (.int 1 :: t) h Q := en_iconst mm42 dX4_readFactor_44 (by decide)
theorem i42_45 {d l0 l1 t h Q} : Ev d 42 45 [l0, l1] t h Q = Ev d 42 49 [l0, l1] t h Q := en_goto mm42 dX4_readFactor_45 rfl
theorem i42_48 {d l0 l1 t h Q} : Ev d 42 48 [l0, l1] t h Q = Ev d 42 49 [l0, l1] (.int 0 :: t) h Q := en_iconst mm42 dX4_readFactor_48 (by decide)
theorem i42_49 {d l0 l1 x h Q} : Ev d 42 49 [l0, l1] [.int x] h Q = (narrow .boolean (.int x) = .int x ∧ Q (.inl (some (.int x))) h) := en_ireturn mm42 dX4_readFactor_49 rfl
theorem i42_50 {d a l1 t h Q} : Ev d 42 50 [some (.ref a), l1] t h Q = Ev d 42 51 [some (.ref a), l1] (.ref a :: t) h Q := en_aload_n mm42 dX4_readFactor_50 rfl
theorem i42_51 {d a l0 l1 t h Q} : Ev d 42 51 [l0, l1] (.ref a :: t) h Q = (hk h a = 5 ∧ Ev d 42 54 [l0, l1] (hF h a 3 :: t) h Q) := en_getfield (cj := 4) mm42 dX4_readFactor_51 (by decide +kernel)
theorem i42_54 {d l0 l1 t h Q} : Ev d 42 54 [l0, l1] t h Q = Ev d 42 55 [l0, l1] (.int 1 :: t) h Q := en_iconst mm42 dX4_readFactor_54 (by decide)
theorem i42_55 {d l0 l1 t x y h Q} : Ev d 42 55 [l0, l1] (.int y :: .int x :: t) h Q = if x = y then Ev d 42 58 [l0, l1] t h Q else Ev d 42 81 [l0, l1] t h Q := en_ic_ne mm42 dX4_readFactor_55 rfl
theorem i42_58 {d a l1 t h Q} : Ev d 42 58 [some (.ref a), l1] t h Q = Ev d 42 59 [some (.ref a), l1] (.ref a :: t) h Q := en_aload_n mm42 dX4_readFactor_58 rfl
theorem i42_59 {d l0 l1 t h Q} : Ev d 42 59 [l0, l1] t h Q = Ev d 42 60 [l0, l1] (.int 0 :: t) h Q := en_iconst mm42 dX4_readFactor_59 (by decide)
theorem i42_60 {d l0 l1 t h Q} : Ev d 42 60 [l0, l1] t h Q = Ev d 42 63 [l0, l1] (.int 9999 :: t) h Q := en_sipush mm42 dX4_readFactor_60 (by decide)
theorem i42_63 {d a l0 l1 x0 x1 h Q} : Ev (d + 1) 42 63 [l0, l1] [x0, x1, .ref a] h Q = (hk h a = 5 ∧ EvM d 44 [.ref a, x1, x0] h (konN (d + 1) 42 66 [l0, l1] [] Q)) := en_virtualN mm42 dX4_readFactor_63 (by decide +kernel : ml _ _ = some (2, 44)) (by decide) (rfl : mtab[44]? = some _) (by decide +kernel : npar _ = 2) rfl (by decide) rfl (of_decide_eq_true rfl) (len_cat (of_decide_eq_true rfl)) rfl rfl rfl
theorem i42_66 {d l0 l1 t x h Q} : Ev d 42 66 [l0, l1] (.int x :: t) h Q = if x = 0 then Ev d 42 69 [l0, l1] t h Q else Ev d 42 71 [l0, l1] t h Q := en_if_ne mm42 dX4_readFactor_66 rfl
theorem i42_69 {d l0 l1 t h Q} : Ev d 42 69 [l0, l1] t h Q = Ev d 42 70 [l0, l1] (.int 0 :: t) h Q := en_iconst mm42 dX4_readFactor_69 (by decide)
theorem i42_70 {d l0 l1 x h Q} : Ev d 42 70 [l0, l1] [.int x] h Q = (narrow .boolean (.int x) = .int x ∧ Q (.inl (some (.int x))) h) := en_ireturn mm42 dX4_readFactor_70 rfl
theorem i42_71 {d a l1 t h Q} : Ev d 42 71 [some (.ref a), l1] t h Q = Ev d 42 72 [some (.ref a), l1] (.ref a :: t) h Q := en_aload_n mm42 dX4_readFactor_71 rfl
theorem i42_72 {d a l1 t h Q} : Ev d 42 72 [some (.ref a), l1] t h Q = Ev d 42 73 [some (.ref a), l1] (.ref a :: t) h Q := en_aload_n mm42 dX4_readFactor_72 rfl
theorem i42_73 {d a l0 l1 t h Q} : Ev d 42 73 [l0, l1] (.ref a :: t) h Q = (hk h a = 5 ∧ Ev d 42 76 [l0, l1] (hF h a 6 :: t) h Q) := en_getfield (cj := 4) mm42 dX4_readFactor_73 (by decide +kernel)
theorem i42_76 {d a l0 l1 x0 h Q} : Ev (d + 1) 42 76 [l0, l1] [x0, .ref a] h Q = (hk h a = 5 ∧ EvM d 43 [.ref a, x0] h (konN (d + 1) 42 79 [l0, l1] [] Q)) := en_virtualN mm42 dX4_readFactor_76 (by decide +kernel : ml _ _ = some (2, 43)) (by decide) (rfl : mtab[43]? = some _) (by decide +kernel : npar _ = 1) rfl (by decide) rfl (of_decide_eq_true rfl) (len_cat (of_decide_eq_true rfl)) rfl rfl rfl
theorem i42_79 {d l0 l1 t h Q} : Ev d 42 79 [l0, l1] t h Q = Ev d 42 80 [l0, l1] (.int 1 :: t) h Q := en_iconst mm42 dX4_readFactor_79 (by decide)
theorem i42_80 {d l0 l1 x h Q} : Ev d 42 80 [l0, l1] [.int x] h Q = (narrow .boolean (.int x) = .int x ∧ Q (.inl (some (.int x))) h) := en_ireturn mm42 dX4_readFactor_80 rfl
theorem i42_81 {d a l1 t h Q} : Ev d 42 81 [some (.ref a), l1] t h Q = Ev d 42 82 [some (.ref a), l1] (.ref a :: t) h Q := en_aload_n mm42 dX4_readFactor_81 rfl
theorem i42_82 {d l0 l1 t h Q} : Ev d 42 82 [l0, l1] t h Q = Ev d 42 84 [l0, l1] (litV 4 :: t) h Q := en_ldcS mm42 dX4_readFactor_82 (by decide +kernel) (by decide +kernel)
theorem i42_84 {d a l0 l1 x0 h Q} : Ev (d + 1) 42 84 [l0, l1] [x0, .ref a] h Q = (hk h a = 5 ∧ EvM d 47 [.ref a, x0] h (konN (d + 1) 42 87 [l0, l1] [] Q)) := en_virtualN mm42 dX4_readFactor_84 (by decide +kernel : ml _ _ = some (2, 47)) (by decide) (rfl : mtab[47]? = some _) (by decide +kernel : npar _ = 1) rfl (by decide) rfl (of_decide_eq_true rfl) (len_cat (of_decide_eq_true rfl)) rfl rfl rfl
theorem i42_87 {d l0 l1 t x h Q} : Ev d 42 87 [l0, l1] (.int x :: t) h Q = if x = 0 then Ev d 42 99 [l0, l1] t h Q else Ev d 42 90 [l0, l1] t h Q := en_if_eq mm42 dX4_readFactor_87 rfl
theorem i42_90 {d a l1 t h Q} : Ev d 42 90 [some (.ref a), l1] t h Q = Ev d 42 91 [some (.ref a), l1] (.ref a :: t) h Q := en_aload_n mm42 dX4_readFactor_90 rfl
theorem i42_91 {d l0 l1 t h Q} : Ev d 42 91 [l0, l1] t h Q = Ev d 42 93 [l0, l1] (.int (-5) :: t) h Q := en_bipush mm42 dX4_readFactor_91 (by decide)
theorem i42_93 {d a l0 l1 x0 h Q} : Ev (d + 1) 42 93 [l0, l1] [x0, .ref a] h Q = (hk h a = 5 ∧ EvM d 43 [.ref a, x0] h (konN (d + 1) 42 96 [l0, l1] [] Q)) := en_virtualN mm42 dX4_readFactor_93 (by decide +kernel : ml _ _ = some (2, 43)) (by decide) (rfl : mtab[43]? = some _) (by decide +kernel : npar _ = 1) rfl (by decide) rfl (of_decide_eq_true rfl) (len_cat (of_decide_eq_true rfl)) rfl rfl rfl
theorem i42_96 {d l0 l1 t h Q} : Ev d 42 96 [l0, l1] t h Q = Ev d 42 142 [l0, l1] t h Q := en_goto mm42 dX4_readFactor_96 rfl
theorem i42_99 {d a l1 t h Q} : Ev d 42 99 [some (.ref a), l1] t h Q = Ev d 42 100 [some (.ref a), l1] (.ref a :: t) h Q := en_aload_n mm42 dX4_readFactor_99 rfl
theorem i42_100 {d l0 l1 t h Q} : Ev d 42 100 [l0, l1] t h Q = Ev d 42 102 [l0, l1] (litV 1 :: t) h Q := en_ldcS mm42 dX4_readFactor_100 (by decide +kernel) (by decide +kernel)
theorem i42_102 {d a l0 l1 x0 h Q} : Ev (d + 1) 42 102 [l0, l1] [x0, .ref a] h Q = (hk h a = 5 ∧ EvM d 47 [.ref a, x0] h (konN (d + 1) 42 105 [l0, l1] [] Q)) := en_virtualN mm42 dX4_readFactor_102 (by decide +kernel : ml _ _ = some (2, 47)) (by decide) (rfl : mtab[47]? = some _) (by decide +kernel : npar _ = 1) rfl (by decide) rfl (of_decide_eq_true rfl) (len_cat (of_decide_eq_true rfl)) rfl rfl rfl
theorem i42_105 {d l0 l1 t x h Q} : Ev d 42 105 [l0, l1] (.int x :: t) h Q = if x = 0 then Ev d 42 117 [l0, l1] t h Q else Ev d 42 108 [l0, l1] t h Q := en_if_eq mm42 dX4_readFactor_105 rfl
theorem i42_108 {d a l1 t h Q} : Ev d 42 108 [some (.ref a), l1] t h Q = Ev d 42 109 [some (.ref a), l1] (.ref a :: t) h Q := en_aload_n mm42 dX4_readFactor_108 rfl
theorem i42_109 {d l0 l1 t h Q} : Ev d 42 109 [l0, l1] t h Q = Ev d 42 111 [l0, l1] (.int (-6) :: t) h Q := en_bipush mm42 dX4_readFactor_109 (by decide)
theorem i42_111 {d a l0 l1 x0 h Q} : Ev (d + 1) 42 111 [l0, l1] [x0, .ref a] h Q = (hk h a = 5 ∧ EvM d 43 [.ref a, x0] h (konN (d + 1) 42 114 [l0, l1] [] Q)) := en_virtualN mm42 dX4_readFactor_111 (by decide +kernel : ml _ _ = some (2, 43)) (by decide) (rfl : mtab[43]? = some _) (by decide +kernel : npar _ = 1) rfl (by decide) rfl (of_decide_eq_true rfl) (len_cat (of_decide_eq_true rfl)) rfl rfl rfl
theorem i42_114 {d l0 l1 t h Q} : Ev d 42 114 [l0, l1] t h Q = Ev d 42 142 [l0, l1] t h Q := en_goto mm42 dX4_readFactor_114 rfl
theorem i42_117 {d a l1 t h Q} : Ev d 42 117 [some (.ref a), l1] t h Q = Ev d 42 118 [some (.ref a), l1] (.ref a :: t) h Q := en_aload_n mm42 dX4_readFactor_117 rfl
theorem i42_118 {d l0 l1 t h Q} : Ev d 42 118 [l0, l1] t h Q = Ev d 42 120 [l0, l1] (litV 5 :: t) h Q := en_ldcS mm42 dX4_readFactor_118 (by decide +kernel) (by decide +kernel)
theorem i42_120 {d a l0 l1 x0 h Q} : Ev (d + 1) 42 120 [l0, l1] [x0, .ref a] h Q = (hk h a = 5 ∧ EvM d 47 [.ref a, x0] h (konN (d + 1) 42 123 [l0, l1] [] Q)) := en_virtualN mm42 dX4_readFactor_120 (by decide +kernel : ml _ _ = some (2, 47)) (by decide) (rfl : mtab[47]? = some _) (by decide +kernel : npar _ = 1) rfl (by decide) rfl (of_decide_eq_true rfl) (len_cat (of_decide_eq_true rfl)) rfl rfl rfl
theorem i42_123 {d l0 l1 t x h Q} : Ev d 42 123 [l0, l1] (.int x :: t) h Q = if x = 0 then Ev d 42 135 [l0, l1] t h Q else Ev d 42 126 [l0, l1] t h Q := en_if_eq mm42 dX4_readFactor_123 rfl
theorem i42_126 {d a l1 t h Q} : Ev d 42 126 [some (.ref a), l1] t h Q = Ev d 42 127 [some (.ref a), l1] (.ref a :: t) h Q := en_aload_n mm42 dX4_readFactor_126 rfl
theorem i42_127 {d l0 l1 t h Q} : Ev d 42 127 [l0, l1] t h Q = Ev d 42 129 [l0, l1] (.int (-7) :: t) h Q := en_bipush mm42 dX4_readFactor_127 (by decide)
theorem i42_129 {d a l0 l1 x0 h Q} : Ev (d + 1) 42 129 [l0, l1] [x0, .ref a] h Q = (hk h a = 5 ∧ EvM d 43 [.ref a, x0] h (konN (d + 1) 42 132 [l0, l1] [] Q)) := en_virtualN mm42 dX4_readFactor_129 (by decide +kernel : ml _ _ = some (2, 43)) (by decide) (rfl : mtab[43]? = some _) (by decide +kernel : npar _ = 1) rfl (by decide) rfl (of_decide_eq_true rfl) (len_cat (of_decide_eq_true rfl)) rfl rfl rfl
theorem i42_132 {d l0 l1 t h Q} : Ev d 42 132 [l0, l1] t h Q = Ev d 42 142 [l0, l1] t h Q := en_goto mm42 dX4_readFactor_132 rfl
theorem i42_135 {d a l1 t h Q} : Ev d 42 135 [some (.ref a), l1] t h Q = Ev d 42 136 [some (.ref a), l1] (.ref a :: t) h Q := en_aload_n mm42 dX4_readFactor_135 rfl
theorem i42_136 {d l0 l1 t h Q} : Ev d 42 136 [l0, l1] t h Q = Ev d 42 138 [l0, l1] (.int (-2) :: t) h Q := en_bipush mm42 dX4_readFactor_136 (by decide)
theorem i42_138 {d a l0 l1 x0 h Q} : Ev (d + 1) 42 138 [l0, l1] [x0, .ref a] h Q = (hk h a = 5 ∧ EvM d 34 [.ref a, x0] h (konN (d + 1) 42 141 [l0, l1] [] Q)) := en_virtualN mm42 dX4_readFactor_138 (by decide +kernel : ml _ _ = some (2, 34)) (by decide) (rfl : mtab[34]? = some _) (by decide +kernel : npar _ = 1) rfl (by decide) rfl (of_decide_eq_true rfl) (len_cat (of_decide_eq_true rfl)) rfl rfl rfl
theorem i42_141 {d l0 l1 x h Q} : Ev d 42 141 [l0, l1] [.int x] h Q = (narrow .boolean (.int x) = .int x ∧ Q (.inl (some (.int x))) h) := en_ireturn mm42 dX4_readFactor_141 rfl
theorem i42_142 {d a l1 t h Q} : Ev d 42 142 [some (.ref a), l1] t h Q = Ev d 42 143 [some (.ref a), l1] (.ref a :: t) h Q := en_aload_n mm42 dX4_readFactor_142 rfl
theorem i42_143 {d a l0 l1 h Q} : Ev (d + 1) 42 143 [l0, l1] [.ref a] h Q = (hk h a = 5 ∧ EvM d 48 [.ref a] h (konN (d + 1) 42 146 [l0, l1] [] Q)) := en_virtualN mm42 dX4_readFactor_143 (by decide +kernel : ml _ _ = some (2, 48)) (by decide) (rfl : mtab[48]? = some _) (by decide +kernel : npar _ = 0) rfl (by decide) rfl (of_decide_eq_true rfl) (len_cat (of_decide_eq_true rfl)) rfl rfl rfl
theorem i42_146 {d l0 l1 t h Q} : Ev d 42 146 [l0, l1] t h Q = Ev d 42 147 [l0, l1] (.int 1 :: t) h Q := en_iconst mm42 dX4_readFactor_146 (by decide)
theorem i42_147 {d l0 l1 x h Q} : Ev d 42 147 [l0, l1] [.int x] h Q = (narrow .boolean (.int x) = .int x ∧ Q (.inl (some (.int x))) h) := en_ireturn mm42 dX4_readFactor_147 rfl
abbrev em43 : MI := (yX4_putStep, cX4_putStep, 2, none, 4, [])
theorem mm43 : mtab[43]? = some em43 := rfl
theorem in43 {d : Nat} {h : AH} {K : AO → AH → Prop} {v0 : Nat} {v1 : Int32} : EvM d 43 [(.ref v0), (.int v1)] h K = Ev d 43 0 [some (.ref v0), some (.int v1)] [] h K := evm_in mm43 (of_decide_eq_true rfl) rfl
theorem i43_0 {d a l1 t h Q} : Ev d 43 0 [some (.ref a), l1] t h Q = Ev d 43 1 [some (.ref a), l1] (.ref a :: t) h Q := en_aload_n mm43 dX4_putStep_0 rfl
theorem i43_1 {d a l0 l1 t h Q} : Ev d 43 1 [l0, l1] (.ref a :: t) h Q = (hk h a = 5 ∧ Ev d 43 4 [l0, l1] (hF h a 12 :: t) h Q) := en_getfield (cj := 4) mm43 dX4_putStep_1 (by decide +kernel)
theorem i43_4 {d l0 l1 t h Q} : Ev d 43 4 [l0, l1] t h Q = Ev d 43 7 [l0, l1] (.int 700 :: t) h Q := en_sipush mm43 dX4_putStep_4 (by decide)
theorem i43_7 {d l0 l1 t x y h Q} : Ev d 43 7 [l0, l1] (.int y :: .int x :: t) h Q = if y ≤ x then Ev d 43 30 [l0, l1] t h Q else Ev d 43 10 [l0, l1] t h Q := en_ic_ge mm43 dX4_putStep_7 rfl
theorem i43_10 {d a l1 t h Q} : Ev d 43 10 [some (.ref a), l1] t h Q = Ev d 43 11 [some (.ref a), l1] (.ref a :: t) h Q := en_aload_n mm43 dX4_putStep_10 rfl
theorem i43_11 {d a l0 l1 t h Q} : Ev d 43 11 [l0, l1] (.ref a :: t) h Q = (hk h a = 5 ∧ Ev d 43 14 [l0, l1] (hF h a 11 :: t) h Q) := en_getfield (cj := 4) mm43 dX4_putStep_11 (by decide +kernel)
theorem i43_14 {d a l1 t h Q} : Ev d 43 14 [some (.ref a), l1] t h Q = Ev d 43 15 [some (.ref a), l1] (.ref a :: t) h Q := en_aload_n mm43 dX4_putStep_14 rfl
theorem i43_15 {d a l0 l1 t h Q} : Ev d 43 15 [l0, l1] (.ref a :: t) h Q = (hk h a = 5 ∧ Ev d 43 18 [l0, l1] (hF h a 12 :: t) h Q) := en_getfield (cj := 4) mm43 dX4_putStep_15 (by decide +kernel)
theorem i43_18 {d l0 t x h Q} : Ev d 43 18 [l0, some (.int x)] t h Q = Ev d 43 19 [l0, some (.int x)] (.int x :: t) h Q := en_iload_n mm43 dX4_putStep_18 rfl
theorem i43_19 {d a j l0 l1 t x h Q} : Ev d 43 19 [l0, l1] (.int x :: .int j :: .ref a :: t) h Q = (hk h a = 10 ∧ inb j (hl h a) ∧ Ev d 43 20 [l0, l1] t (wA h a (upd (hA h a) j.toNatClampNeg x)) Q) := en_iastore mm43 dX4_putStep_19
theorem i43_20 {d a l1 t h Q} : Ev d 43 20 [some (.ref a), l1] t h Q = Ev d 43 21 [some (.ref a), l1] (.ref a :: t) h Q := en_aload_n mm43 dX4_putStep_20 rfl
theorem i43_21 {d a l0 l1 t h Q} : Ev d 43 21 [l0, l1] (.ref a :: t) h Q = Ev d 43 22 [l0, l1] (.ref a :: .ref a :: t) h Q := en_dup mm43 dX4_putStep_21
theorem i43_22 {d a l0 l1 t h Q} : Ev d 43 22 [l0, l1] (.ref a :: t) h Q = (hk h a = 5 ∧ Ev d 43 25 [l0, l1] (hF h a 12 :: t) h Q) := en_getfield (cj := 4) mm43 dX4_putStep_22 (by decide +kernel)
theorem i43_25 {d l0 l1 t h Q} : Ev d 43 25 [l0, l1] t h Q = Ev d 43 26 [l0, l1] (.int 1 :: t) h Q := en_iconst mm43 dX4_putStep_25 (by decide)
theorem i43_26 {d l0 l1 t x y h Q} : Ev d 43 26 [l0, l1] (.int y :: .int x :: t) h Q = Ev d 43 27 [l0, l1] (.int (x + y) :: t) h Q := en_iadd mm43 dX4_putStep_26
theorem i43_27 {d a l0 l1 t x h Q} : Ev d 43 27 [l0, l1] (.int x :: .ref a :: t) h Q = (hk h a = 5 ∧ Ev d 43 30 [l0, l1] t (wF h a 12 (.int x)) Q) := en_putfield (cj := 4) mm43 dX4_putStep_27 (by decide +kernel) rfl
theorem i43_30 {d l0 l1 h Q} : Ev d 43 30 [l0, l1] [] h Q = Q (.inl none) h := en_return mm43 dX4_putStep_30 rfl
abbrev em44 : MI := (yX4_takeNumber, cX4_takeNumber, 5, some .boolean, 4, [])
theorem mm44 : mtab[44]? = some em44 := rfl
theorem in44 {d : Nat} {h : AH} {K : AO → AH → Prop} {v0 : Nat} {v1 : Int32} {v2 : Int32} : EvM d 44 [(.ref v0), (.int v1), (.int v2)] h K = Ev d 44 0 [some (.ref v0), some (.int v1), some (.int v2), none, none] [] h K := evm_in mm44 (of_decide_eq_true rfl) rfl
theorem i44_0 {d a l1 l2 l3 l4 t h Q} : Ev d 44 0 [some (.ref a), l1, l2, l3, l4] t h Q = Ev d 44 1 [some (.ref a), l1, l2, l3, l4] (.ref a :: t) h Q := en_aload_n mm44 dX4_takeNumber_0 rfl
theorem i44_1 {d a l0 l1 l2 l3 l4 t h Q} : Ev d 44 1 [l0, l1, l2, l3, l4] (.ref a :: t) h Q = (hk h a = 5 ∧ Ev d 44 4 [l0, l1, l2, l3, l4] (hF h a 3 :: t) h Q) := en_getfield (cj := 4) mm44 dX4_takeNumber_1 (by decide +kernel)
theorem i44_4 {d l0 l1 l2 l3 l4 t h Q} : Ev d 44 4 [l0, l1, l2, l3, l4] t h Q = Ev d 44 5 [l0, l1, l2, l3, l4] (.int 1 :: t) h Q := en_iconst mm44 dX4_takeNumber_4 (by decide)
theorem i44_5 {d l0 l1 l2 l3 l4 t x y h Q} : Ev d 44 5 [l0, l1, l2, l3, l4] (.int y :: .int x :: t) h Q = if x = y then Ev d 44 15 [l0, l1, l2, l3, l4] t h Q else Ev d 44 8 [l0, l1, l2, l3, l4] t h Q := en_ic_eq mm44 dX4_takeNumber_5 rfl
theorem i44_8 {d a l1 l2 l3 l4 t h Q} : Ev d 44 8 [some (.ref a), l1, l2, l3, l4] t h Q = Ev d 44 9 [some (.ref a), l1, l2, l3, l4] (.ref a :: t) h Q := en_aload_n mm44 dX4_takeNumber_8 rfl
theorem i44_9 {d l0 l1 l2 l3 l4 t h Q} : Ev d 44 9 [l0, l1, l2, l3, l4] t h Q = Ev d 44 11 [l0, l1, l2, l3, l4] (.int (-2) :: t) h Q := en_bipush mm44 dX4_takeNumber_9 (by decide)
theorem i44_11 {d a l0 l1 l2 l3 l4 x0 h Q} : Ev (d + 1) 44 11 [l0, l1, l2, l3, l4] [x0, .ref a] h Q = (hk h a = 5 ∧ EvM d 34 [.ref a, x0] h (konN (d + 1) 44 14 [l0, l1, l2, l3, l4] [] Q)) := en_virtualN mm44 dX4_takeNumber_11 (by decide +kernel : ml _ _ = some (2, 34)) (by decide) (rfl : mtab[34]? = some _) (by decide +kernel : npar _ = 1) rfl (by decide) rfl (of_decide_eq_true rfl) (len_cat (of_decide_eq_true rfl)) rfl rfl rfl
theorem i44_14 {d l0 l1 l2 l3 l4 x h Q} : Ev d 44 14 [l0, l1, l2, l3, l4] [.int x] h Q = (narrow .boolean (.int x) = .int x ∧ Q (.inl (some (.int x))) h) := en_ireturn mm44 dX4_takeNumber_14 rfl
theorem i44_15 {d l0 l1 l2 l3 l4 t h Q} : Ev d 44 15 [l0, l1, l2, l3, l4] t h Q = Ev d 44 16 [l0, l1, l2, l3, l4] (.int 0 :: t) h Q := en_iconst mm44 dX4_takeNumber_15 (by decide)
theorem i44_16 {d l0 l1 l2 l3 l4 t x h Q} : Ev d 44 16 [l0, l1, l2, l3, l4] (.int x :: t) h Q = Ev d 44 17 [l0, l1, nl l2, some (.int x), l4] t h Q := en_istore_n mm44 dX4_takeNumber_16 (of_decide_eq_true rfl) rfl
theorem i44_17 {d a l1 l2 l3 l4 t h Q} : Ev d 44 17 [some (.ref a), l1, l2, l3, l4] t h Q = Ev d 44 18 [some (.ref a), l1, l2, l3, l4] (.ref a :: t) h Q := en_aload_n mm44 dX4_takeNumber_17 rfl
theorem i44_18 {d a l0 l1 l2 l3 l4 t h Q} : Ev d 44 18 [l0, l1, l2, l3, l4] (.ref a :: t) h Q = (hk h a = 5 ∧ Ev d 44 21 [l0, l1, l2, l3, l4] (hF h a 4 :: t) h Q) := en_getfield (cj := 4) mm44 dX4_takeNumber_18 (by decide +kernel)
theorem i44_21 {d l0 l1 l2 l3 l4 t x h Q} : Ev d 44 21 [l0, l1, l2, l3, l4] (.int x :: t) h Q = Ev d 44 23 [l0, l1, l2, nl l3, some (.int x)] t h Q := en_istore mm44 dX4_takeNumber_21 (of_decide_eq_true rfl) rfl
theorem i44_23 {d l0 l1 l2 l3 t x h Q} : Ev d 44 23 [l0, l1, l2, l3, some (.int x)] t h Q = Ev d 44 25 [l0, l1, l2, l3, some (.int x)] (.int x :: t) h Q := en_iload mm44 dX4_takeNumber_23 rfl
theorem i44_25 {d a l1 l2 l3 l4 t h Q} : Ev d 44 25 [some (.ref a), l1, l2, l3, l4] t h Q = Ev d 44 26 [some (.ref a), l1, l2, l3, l4] (.ref a :: t) h Q := en_aload_n mm44 dX4_takeNumber_25 rfl
theorem i44_26 {d a l0 l1 l2 l3 l4 t h Q} : Ev d 44 26 [l0, l1, l2, l3, l4] (.ref a :: t) h Q = (hk h a = 5 ∧ Ev d 44 29 [l0, l1, l2, l3, l4] (hF h a 5 :: t) h Q) := en_getfield (cj := 4) mm44 dX4_takeNumber_26 (by decide +kernel)
theorem i44_29 {d l0 l1 l2 l3 l4 t x y h Q} : Ev d 44 29 [l0, l1, l2, l3, l4] (.int y :: .int x :: t) h Q = if y ≤ x then Ev d 44 59 [l0, l1, l2, l3, l4] t h Q else Ev d 44 32 [l0, l1, l2, l3, l4] t h Q := en_ic_ge mm44 dX4_takeNumber_29 rfl
theorem i44_32 {d l0 l1 l2 l3 l4 t h Q} : Ev d 44 32 [l0, l1, l2, l3, l4] t h Q = Ev d 44 34 [l0, l1, l2, l3, l4] (.int 100000 :: t) h Q := en_ldcI mm44 dX4_takeNumber_32 (by decide +kernel : look _ cstT = some (762, 100000)) (by decide)
theorem i44_34 {d l0 l1 l2 l3 l4 t h Q} : Ev d 44 34 [l0, l1, l2, l3, l4] t h Q = Ev d 44 36 [l0, l1, l2, l3, l4] (.int 10 :: t) h Q := en_bipush mm44 dX4_takeNumber_34 (by decide)
theorem i44_36 {d l0 l1 l2 l4 t x h Q} : Ev d 44 36 [l0, l1, l2, some (.int x), l4] t h Q = Ev d 44 37 [l0, l1, l2, some (.int x), l4] (.int x :: t) h Q := en_iload_n mm44 dX4_takeNumber_36 rfl
theorem i44_37 {d l0 l1 l2 l3 l4 t x y h Q} : Ev d 44 37 [l0, l1, l2, l3, l4] (.int y :: .int x :: t) h Q = Ev d 44 38 [l0, l1, l2, l3, l4] (.int (x * y) :: t) h Q := en_imul mm44 dX4_takeNumber_37
theorem i44_38 {d a l1 l2 l3 l4 t h Q} : Ev d 44 38 [some (.ref a), l1, l2, l3, l4] t h Q = Ev d 44 39 [some (.ref a), l1, l2, l3, l4] (.ref a :: t) h Q := en_aload_n mm44 dX4_takeNumber_38 rfl
theorem i44_39 {d a l0 l1 l2 l3 l4 t h Q} : Ev d 44 39 [l0, l1, l2, l3, l4] (.ref a :: t) h Q = (hk h a = 5 ∧ Ev d 44 42 [l0, l1, l2, l3, l4] (hF h a 0 :: t) h Q) := en_getfield (cj := 4) mm44 dX4_takeNumber_39 (by decide +kernel)
theorem i44_42 {d l0 l1 l2 l3 t x h Q} : Ev d 44 42 [l0, l1, l2, l3, some (.int x)] t h Q = Ev d 44 44 [l0, l1, l2, l3, some (.int x)] (.int x :: t) h Q := en_iload mm44 dX4_takeNumber_42 rfl
theorem i44_44 {d a j l0 l1 l2 l3 l4 t h Q} : Ev d 44 44 [l0, l1, l2, l3, l4] (.int j :: .ref a :: t) h Q = (hk h a = 11 ∧ inb j (hl h a) ∧ Ev d 44 45 [l0, l1, l2, l3, l4] (.int (hA h a j.toNatClampNeg) :: t) h Q) := en_baload mm44 dX4_takeNumber_44
theorem i44_45 {d l0 l1 l2 l3 l4 t h Q} : Ev d 44 45 [l0, l1, l2, l3, l4] t h Q = Ev d 44 47 [l0, l1, l2, l3, l4] (.int 48 :: t) h Q := en_bipush mm44 dX4_takeNumber_45 (by decide)
theorem i44_47 {d l0 l1 l2 l3 l4 t x y h Q} : Ev d 44 47 [l0, l1, l2, l3, l4] (.int y :: .int x :: t) h Q = Ev d 44 48 [l0, l1, l2, l3, l4] (.int (x - y) :: t) h Q := en_isub mm44 dX4_takeNumber_47
theorem i44_48 {d l0 l1 l2 l3 l4 t x y h Q} : Ev d 44 48 [l0, l1, l2, l3, l4] (.int y :: .int x :: t) h Q = Ev d 44 49 [l0, l1, l2, l3, l4] (.int (x + y) :: t) h Q := en_iadd mm44 dX4_takeNumber_48
theorem i44_49 {d l0 l1 l2 l3 l4 x y h Q} : Ev (d + 1) 44 49 [l0, l1, l2, l3, l4] [.int y, .int x] h Q = Ev (d + 1) 44 52 [l0, l1, l2, l3, l4] [.int (if y < x then y else x)] h Q := en_min mm44 dX4_takeNumber_49 (by decide +kernel) (of_decide_eq_true rfl)
theorem i44_52 {d l0 l1 l2 l3 l4 t x h Q} : Ev d 44 52 [l0, l1, l2, l3, l4] (.int x :: t) h Q = Ev d 44 53 [l0, l1, nl l2, some (.int x), l4] t h Q := en_istore_n mm44 dX4_takeNumber_52 (of_decide_eq_true rfl) rfl
theorem i44_53 {d l0 l1 l2 l3 t x h Q} : Ev d 44 53 [l0, l1, l2, l3, some (.int x)] t h Q = Ev d 44 56 [l0, l1, l2, nl l3, some (.int (x + 1))] t h Q := en_iinc mm44 dX4_takeNumber_53 rfl (by decide) rfl
theorem i44_56 {d l0 l1 l2 l3 l4 t h Q} : Ev d 44 56 [l0, l1, l2, l3, l4] t h Q = Ev d 44 23 [l0, l1, l2, l3, l4] t h Q := en_goto mm44 dX4_takeNumber_56 rfl
theorem i44_59 {d l0 l1 l2 l4 t x h Q} : Ev d 44 59 [l0, l1, l2, some (.int x), l4] t h Q = Ev d 44 60 [l0, l1, l2, some (.int x), l4] (.int x :: t) h Q := en_iload_n mm44 dX4_takeNumber_59 rfl
theorem i44_60 {d l0 l2 l3 l4 t x h Q} : Ev d 44 60 [l0, some (.int x), l2, l3, l4] t h Q = Ev d 44 61 [l0, some (.int x), l2, l3, l4] (.int x :: t) h Q := en_iload_n mm44 dX4_takeNumber_60 rfl
theorem i44_61 {d l0 l1 l3 l4 t x h Q} : Ev d 44 61 [l0, l1, some (.int x), l3, l4] t h Q = Ev d 44 62 [l0, l1, some (.int x), l3, l4] (.int x :: t) h Q := en_iload_n mm44 dX4_takeNumber_61 rfl
theorem i44_62 {d l0 l1 l2 l3 l4 x0 x1 x2 h Q} : Ev (d + 1) 44 62 [l0, l1, l2, l3, l4] [x0, x1, x2] h Q = EvM d 81 [x2, x1, x0] h (konN (d + 1) 44 65 [l0, l1, l2, l3, l4] [] Q) := en_staticN mm44 dX4_takeNumber_62 (by decide +kernel : ml _ _ = some (1, 81)) (by decide) (rfl : mtab[81]? = some _) (by decide +kernel : npar _ = 3) (of_decide_eq_true rfl) (len_cat (of_decide_eq_true rfl)) rfl rfl rfl
theorem i44_65 {d l0 l1 l2 l3 l4 t x h Q} : Ev d 44 65 [l0, l1, l2, l3, l4] (.int x :: t) h Q = if x = 0 then Ev d 44 68 [l0, l1, l2, l3, l4] t h Q else Ev d 44 75 [l0, l1, l2, l3, l4] t h Q := en_if_ne mm44 dX4_takeNumber_65 rfl
theorem i44_68 {d a l1 l2 l3 l4 t h Q} : Ev d 44 68 [some (.ref a), l1, l2, l3, l4] t h Q = Ev d 44 69 [some (.ref a), l1, l2, l3, l4] (.ref a :: t) h Q := en_aload_n mm44 dX4_takeNumber_68 rfl
theorem i44_69 {d l0 l1 l2 l3 l4 t h Q} : Ev d 44 69 [l0, l1, l2, l3, l4] t h Q = Ev d 44 71 [l0, l1, l2, l3, l4] (.int (-3) :: t) h Q := en_bipush mm44 dX4_takeNumber_69 (by decide)
theorem i44_71 {d a l0 l1 l2 l3 l4 x0 h Q} : Ev (d + 1) 44 71 [l0, l1, l2, l3, l4] [x0, .ref a] h Q = (hk h a = 5 ∧ EvM d 34 [.ref a, x0] h (konN (d + 1) 44 74 [l0, l1, l2, l3, l4] [] Q)) := en_virtualN mm44 dX4_takeNumber_71 (by decide +kernel : ml _ _ = some (2, 34)) (by decide) (rfl : mtab[34]? = some _) (by decide +kernel : npar _ = 1) rfl (by decide) rfl (of_decide_eq_true rfl) (len_cat (of_decide_eq_true rfl)) rfl rfl rfl
theorem i44_74 {d l0 l1 l2 l3 l4 x h Q} : Ev d 44 74 [l0, l1, l2, l3, l4] [.int x] h Q = (narrow .boolean (.int x) = .int x ∧ Q (.inl (some (.int x))) h) := en_ireturn mm44 dX4_takeNumber_74 rfl
theorem i44_75 {d a l1 l2 l3 l4 t h Q} : Ev d 44 75 [some (.ref a), l1, l2, l3, l4] t h Q = Ev d 44 76 [some (.ref a), l1, l2, l3, l4] (.ref a :: t) h Q := en_aload_n mm44 dX4_takeNumber_75 rfl
theorem i44_76 {d l0 l1 l2 l4 t x h Q} : Ev d 44 76 [l0, l1, l2, some (.int x), l4] t h Q = Ev d 44 77 [l0, l1, l2, some (.int x), l4] (.int x :: t) h Q := en_iload_n mm44 dX4_takeNumber_76 rfl
theorem i44_77 {d a l0 l1 l2 l3 l4 t x h Q} : Ev d 44 77 [l0, l1, l2, l3, l4] (.int x :: .ref a :: t) h Q = (hk h a = 5 ∧ Ev d 44 80 [l0, l1, l2, l3, l4] t (wF h a 6 (.int x)) Q) := en_putfield (cj := 4) mm44 dX4_takeNumber_77 (by decide +kernel) rfl
theorem i44_80 {d a l1 l2 l3 l4 t h Q} : Ev d 44 80 [some (.ref a), l1, l2, l3, l4] t h Q = Ev d 44 81 [some (.ref a), l1, l2, l3, l4] (.ref a :: t) h Q := en_aload_n mm44 dX4_takeNumber_80 rfl
theorem i44_81 {d a l0 l1 l2 l3 l4 h Q} : Ev (d + 1) 44 81 [l0, l1, l2, l3, l4] [.ref a] h Q = (hk h a = 5 ∧ EvM d 48 [.ref a] h (konN (d + 1) 44 84 [l0, l1, l2, l3, l4] [] Q)) := en_virtualN mm44 dX4_takeNumber_81 (by decide +kernel : ml _ _ = some (2, 48)) (by decide) (rfl : mtab[48]? = some _) (by decide +kernel : npar _ = 0) rfl (by decide) rfl (of_decide_eq_true rfl) (len_cat (of_decide_eq_true rfl)) rfl rfl rfl
theorem i44_84 {d l0 l1 l2 l3 l4 t h Q} : Ev d 44 84 [l0, l1, l2, l3, l4] t h Q = Ev d 44 85 [l0, l1, l2, l3, l4] (.int 1 :: t) h Q := en_iconst mm44 dX4_takeNumber_84 (by decide)
theorem i44_85 {d l0 l1 l2 l3 l4 x h Q} : Ev d 44 85 [l0, l1, l2, l3, l4] [.int x] h Q = (narrow .boolean (.int x) = .int x ∧ Q (.inl (some (.int x))) h) := en_ireturn mm44 dX4_takeNumber_85 rfl
abbrev em45 : MI := (yX4_takeSign, cX4_takeSign, 2, some .boolean, 4, [])
theorem mm45 : mtab[45]? = some em45 := rfl
theorem in45 {d : Nat} {h : AH} {K : AO → AH → Prop} {v0 : Nat} {v1 : Int32} : EvM d 45 [(.ref v0), (.int v1)] h K = Ev d 45 0 [some (.ref v0), some (.int v1)] [] h K := evm_in mm45 (of_decide_eq_true rfl) rfl
theorem i45_0 {d a l1 t h Q} : Ev d 45 0 [some (.ref a), l1] t h Q = Ev d 45 1 [some (.ref a), l1] (.ref a :: t) h Q := en_aload_n mm45 dX4_takeSign_0 rfl
theorem i45_1 {d l0 t x h Q} : Ev d 45 1 [l0, some (.int x)] t h Q = Ev d 45 2 [l0, some (.int x)] (.int x :: t) h Q := en_iload_n mm45 dX4_takeSign_1 rfl
theorem i45_2 {d a l0 l1 x0 h Q} : Ev (d + 1) 45 2 [l0, l1] [x0, .ref a] h Q = (hk h a = 5 ∧ EvM d 46 [.ref a, x0] h (konN (d + 1) 45 5 [l0, l1] [] Q)) := en_virtualN mm45 dX4_takeSign_2 (by decide +kernel : ml _ _ = some (2, 46)) (by decide) (rfl : mtab[46]? = some _) (by decide +kernel : npar _ = 1) rfl (by decide) rfl (of_decide_eq_true rfl) (len_cat (of_decide_eq_true rfl)) rfl rfl rfl
theorem i45_5 {d l0 l1 t x h Q} : Ev d 45 5 [l0, l1] (.int x :: t) h Q = if x = 0 then Ev d 45 8 [l0, l1] t h Q else Ev d 45 15 [l0, l1] t h Q := en_if_ne mm45 dX4_takeSign_5 rfl
theorem i45_8 {d a l1 t h Q} : Ev d 45 8 [some (.ref a), l1] t h Q = Ev d 45 9 [some (.ref a), l1] (.ref a :: t) h Q := en_aload_n mm45 dX4_takeSign_8 rfl
theorem i45_9 {d l0 l1 t h Q} : Ev d 45 9 [l0, l1] t h Q = Ev d 45 11 [l0, l1] (.int (-2) :: t) h Q := en_bipush mm45 dX4_takeSign_9 (by decide)
theorem i45_11 {d a l0 l1 x0 h Q} : Ev (d + 1) 45 11 [l0, l1] [x0, .ref a] h Q = (hk h a = 5 ∧ EvM d 34 [.ref a, x0] h (konN (d + 1) 45 14 [l0, l1] [] Q)) := en_virtualN mm45 dX4_takeSign_11 (by decide +kernel : ml _ _ = some (2, 34)) (by decide) (rfl : mtab[34]? = some _) (by decide +kernel : npar _ = 1) rfl (by decide) rfl (of_decide_eq_true rfl) (len_cat (of_decide_eq_true rfl)) rfl rfl rfl
theorem i45_14 {d l0 l1 x h Q} : Ev d 45 14 [l0, l1] [.int x] h Q = (narrow .boolean (.int x) = .int x ∧ Q (.inl (some (.int x))) h) := en_ireturn mm45 dX4_takeSign_14 rfl
theorem i45_15 {d a l1 t h Q} : Ev d 45 15 [some (.ref a), l1] t h Q = Ev d 45 16 [some (.ref a), l1] (.ref a :: t) h Q := en_aload_n mm45 dX4_takeSign_15 rfl
theorem i45_16 {d a l0 l1 h Q} : Ev (d + 1) 45 16 [l0, l1] [.ref a] h Q = (hk h a = 5 ∧ EvM d 48 [.ref a] h (konN (d + 1) 45 19 [l0, l1] [] Q)) := en_virtualN mm45 dX4_takeSign_16 (by decide +kernel : ml _ _ = some (2, 48)) (by decide) (rfl : mtab[48]? = some _) (by decide +kernel : npar _ = 0) rfl (by decide) rfl (of_decide_eq_true rfl) (len_cat (of_decide_eq_true rfl)) rfl rfl rfl
theorem i45_19 {d l0 l1 t h Q} : Ev d 45 19 [l0, l1] t h Q = Ev d 45 20 [l0, l1] (.int 1 :: t) h Q := en_iconst mm45 dX4_takeSign_19 (by decide)
theorem i45_20 {d l0 l1 x h Q} : Ev d 45 20 [l0, l1] [.int x] h Q = (narrow .boolean (.int x) = .int x ∧ Q (.inl (some (.int x))) h) := en_ireturn mm45 dX4_takeSign_20 rfl
abbrev em46 : MI := (yX4_signIs, cX4_signIs, 2, some .boolean, 4, [])
theorem mm46 : mtab[46]? = some em46 := rfl
theorem in46 {d : Nat} {h : AH} {K : AO → AH → Prop} {v0 : Nat} {v1 : Int32} : EvM d 46 [(.ref v0), (.int v1)] h K = Ev d 46 0 [some (.ref v0), some (.int v1)] [] h K := evm_in mm46 (of_decide_eq_true rfl) rfl
theorem i46_0 {d a l1 t h Q} : Ev d 46 0 [some (.ref a), l1] t h Q = Ev d 46 1 [some (.ref a), l1] (.ref a :: t) h Q := en_aload_n mm46 dX4_signIs_0 rfl
theorem i46_1 {d a l0 l1 t h Q} : Ev d 46 1 [l0, l1] (.ref a :: t) h Q = (hk h a = 5 ∧ Ev d 46 4 [l0, l1] (hF h a 3 :: t) h Q) := en_getfield (cj := 4) mm46 dX4_signIs_1 (by decide +kernel)
theorem i46_4 {d l0 l1 t h Q} : Ev d 46 4 [l0, l1] t h Q = Ev d 46 5 [l0, l1] (.int 3 :: t) h Q := en_iconst mm46 dX4_signIs_4 (by decide)
theorem i46_5 {d l0 l1 t x y h Q} : Ev d 46 5 [l0, l1] (.int y :: .int x :: t) h Q = if x = y then Ev d 46 8 [l0, l1] t h Q else Ev d 46 25 [l0, l1] t h Q := en_ic_ne mm46 dX4_signIs_5 rfl
theorem i46_8 {d a l1 t h Q} : Ev d 46 8 [some (.ref a), l1] t h Q = Ev d 46 9 [some (.ref a), l1] (.ref a :: t) h Q := en_aload_n mm46 dX4_signIs_8 rfl
theorem i46_9 {d a l0 l1 t h Q} : Ev d 46 9 [l0, l1] (.ref a :: t) h Q = (hk h a = 5 ∧ Ev d 46 12 [l0, l1] (hF h a 0 :: t) h Q) := en_getfield (cj := 4) mm46 dX4_signIs_9 (by decide +kernel)
theorem i46_12 {d a l1 t h Q} : Ev d 46 12 [some (.ref a), l1] t h Q = Ev d 46 13 [some (.ref a), l1] (.ref a :: t) h Q := en_aload_n mm46 dX4_signIs_12 rfl
theorem i46_13 {d a l0 l1 t h Q} : Ev d 46 13 [l0, l1] (.ref a :: t) h Q = (hk h a = 5 ∧ Ev d 46 16 [l0, l1] (hF h a 4 :: t) h Q) := en_getfield (cj := 4) mm46 dX4_signIs_13 (by decide +kernel)
theorem i46_16 {d a j l0 l1 t h Q} : Ev d 46 16 [l0, l1] (.int j :: .ref a :: t) h Q = (hk h a = 11 ∧ inb j (hl h a) ∧ Ev d 46 17 [l0, l1] (.int (hA h a j.toNatClampNeg) :: t) h Q) := en_baload mm46 dX4_signIs_16
theorem i46_17 {d l0 t x h Q} : Ev d 46 17 [l0, some (.int x)] t h Q = Ev d 46 18 [l0, some (.int x)] (.int x :: t) h Q := en_iload_n mm46 dX4_signIs_17 rfl
theorem i46_18 {d l0 l1 t x y h Q} : Ev d 46 18 [l0, l1] (.int y :: .int x :: t) h Q = if x = y then Ev d 46 21 [l0, l1] t h Q else Ev d 46 25 [l0, l1] t h Q := en_ic_ne mm46 dX4_signIs_18 rfl
theorem i46_21 {d l0 l1 t h Q} : Ev d 46 21 [l0, l1] t h Q = Ev d 46 22 [l0, l1] (.int 1 :: t) h Q := en_iconst mm46 dX4_signIs_21 (by decide)
theorem i46_22 {d l0 l1 t h Q} : Ev d 46 22 [l0, l1] t h Q = Ev d 46 26 [l0, l1] t h Q := en_goto mm46 dX4_signIs_22 rfl
theorem i46_25 {d l0 l1 t h Q} : Ev d 46 25 [l0, l1] t h Q = Ev d 46 26 [l0, l1] (.int 0 :: t) h Q := en_iconst mm46 dX4_signIs_25 (by decide)
theorem i46_26 {d l0 l1 x h Q} : Ev d 46 26 [l0, l1] [.int x] h Q = (narrow .boolean (.int x) = .int x ∧ Q (.inl (some (.int x))) h) := en_ireturn mm46 dX4_signIs_26 rfl
abbrev em47 : MI := (yX4_wordIs, cX4_wordIs, 3, some .boolean, 4, [])
theorem mm47 : mtab[47]? = some em47 := rfl
theorem in47 {d : Nat} {h : AH} {K : AO → AH → Prop} {v0 : Nat} {v1 : Nat} : EvM d 47 [(.ref v0), (litV v1)] h K = Ev d 47 0 [some (.ref v0), some (litV v1), none] [] h K := evm_in mm47 (of_decide_eq_true rfl) rfl
theorem in47_r {d : Nat} {h : AH} {K : AO → AH → Prop} {v0 : Nat} {v1 : Nat} : EvM d 47 [(.ref v0), (.ref v1)] h K = Ev d 47 0 [some (.ref v0), some (.ref v1), none] [] h K := evm_in mm47 (of_decide_eq_true rfl) rfl
theorem i47_0 {d a l1 l2 t h Q} : Ev d 47 0 [some (.ref a), l1, l2] t h Q = Ev d 47 1 [some (.ref a), l1, l2] (.ref a :: t) h Q := en_aload_n mm47 dX4_wordIs_0 rfl
theorem i47_1 {d a l0 l1 l2 t h Q} : Ev d 47 1 [l0, l1, l2] (.ref a :: t) h Q = (hk h a = 5 ∧ Ev d 47 4 [l0, l1, l2] (hF h a 3 :: t) h Q) := en_getfield (cj := 4) mm47 dX4_wordIs_1 (by decide +kernel)
theorem i47_4 {d l0 l1 l2 t h Q} : Ev d 47 4 [l0, l1, l2] t h Q = Ev d 47 5 [l0, l1, l2] (.int 2 :: t) h Q := en_iconst mm47 dX4_wordIs_4 (by decide)
theorem i47_5 {d l0 l1 l2 t x y h Q} : Ev d 47 5 [l0, l1, l2] (.int y :: .int x :: t) h Q = if x = y then Ev d 47 8 [l0, l1, l2] t h Q else Ev d 47 24 [l0, l1, l2] t h Q := en_ic_ne mm47 dX4_wordIs_5 rfl
theorem i47_8 {d a l1 l2 t h Q} : Ev d 47 8 [some (.ref a), l1, l2] t h Q = Ev d 47 9 [some (.ref a), l1, l2] (.ref a :: t) h Q := en_aload_n mm47 dX4_wordIs_8 rfl
theorem i47_9 {d a l0 l1 l2 t h Q} : Ev d 47 9 [l0, l1, l2] (.ref a :: t) h Q = (hk h a = 5 ∧ Ev d 47 12 [l0, l1, l2] (hF h a 5 :: t) h Q) := en_getfield (cj := 4) mm47 dX4_wordIs_9 (by decide +kernel)
theorem i47_12 {d a l1 l2 t h Q} : Ev d 47 12 [some (.ref a), l1, l2] t h Q = Ev d 47 13 [some (.ref a), l1, l2] (.ref a :: t) h Q := en_aload_n mm47 dX4_wordIs_12 rfl
theorem i47_13 {d a l0 l1 l2 t h Q} : Ev d 47 13 [l0, l1, l2] (.ref a :: t) h Q = (hk h a = 5 ∧ Ev d 47 16 [l0, l1, l2] (hF h a 4 :: t) h Q) := en_getfield (cj := 4) mm47 dX4_wordIs_13 (by decide +kernel)
theorem i47_16 {d l0 l1 l2 t x y h Q} : Ev d 47 16 [l0, l1, l2] (.int y :: .int x :: t) h Q = Ev d 47 17 [l0, l1, l2] (.int (x - y) :: t) h Q := en_isub mm47 dX4_wordIs_16
theorem i47_17 {d l0 l2 t x h Q} : Ev d 47 17 [l0, some x, l2] t h Q = (isR x = true ∧ Ev d 47 18 [l0, some x, l2] (x :: t) h Q) := en_aload_nV mm47 dX4_wordIs_17 rfl
theorem i47_18 {d l0 l1 l2 x0 x1 h Q} : Ev (d + 1) 47 18 [l0, l1, l2] [x0, x1] h Q = (recv h 11 (some x0) = true ∧ EvM d 111 [x0] h (konN (d + 1) 47 21 [l0, l1, l2] [x1] Q)) := en_virtualV mm47 dX4_wordIs_18 (by decide +kernel : ml _ _ = some (2, 111)) (by decide) (rfl : mtab[111]? = some _) (by decide +kernel : npar _ = 0) rfl rfl (of_decide_eq_true rfl) (len_cat (of_decide_eq_true rfl)) rfl rfl rfl
theorem i47_21 {d l0 l1 l2 t x y h Q} : Ev d 47 21 [l0, l1, l2] (.int y :: .int x :: t) h Q = if x = y then Ev d 47 26 [l0, l1, l2] t h Q else Ev d 47 24 [l0, l1, l2] t h Q := en_ic_eq mm47 dX4_wordIs_21 rfl
theorem i47_24 {d l0 l1 l2 t h Q} : Ev d 47 24 [l0, l1, l2] t h Q = Ev d 47 25 [l0, l1, l2] (.int 0 :: t) h Q := en_iconst mm47 dX4_wordIs_24 (by decide)
theorem i47_25 {d l0 l1 l2 x h Q} : Ev d 47 25 [l0, l1, l2] [.int x] h Q = (narrow .boolean (.int x) = .int x ∧ Q (.inl (some (.int x))) h) := en_ireturn mm47 dX4_wordIs_25 rfl
theorem i47_26 {d l0 l1 l2 t h Q} : Ev d 47 26 [l0, l1, l2] t h Q = Ev d 47 27 [l0, l1, l2] (.int 0 :: t) h Q := en_iconst mm47 dX4_wordIs_26 (by decide)
theorem i47_27 {d l0 l1 l2 t x h Q} : Ev d 47 27 [l0, l1, l2] (.int x :: t) h Q = Ev d 47 28 [l0, nl l1, some (.int x)] t h Q := en_istore_n mm47 dX4_wordIs_27 (of_decide_eq_true rfl) rfl
theorem i47_28 {d l0 l1 t x h Q} : Ev d 47 28 [l0, l1, some (.int x)] t h Q = Ev d 47 29 [l0, l1, some (.int x)] (.int x :: t) h Q := en_iload_n mm47 dX4_wordIs_28 rfl
theorem i47_29 {d l0 l2 t x h Q} : Ev d 47 29 [l0, some x, l2] t h Q = (isR x = true ∧ Ev d 47 30 [l0, some x, l2] (x :: t) h Q) := en_aload_nV mm47 dX4_wordIs_29 rfl
theorem i47_30 {d l0 l1 l2 x0 x1 h Q} : Ev (d + 1) 47 30 [l0, l1, l2] [x0, x1] h Q = (recv h 11 (some x0) = true ∧ EvM d 111 [x0] h (konN (d + 1) 47 33 [l0, l1, l2] [x1] Q)) := en_virtualV mm47 dX4_wordIs_30 (by decide +kernel : ml _ _ = some (2, 111)) (by decide) (rfl : mtab[111]? = some _) (by decide +kernel : npar _ = 0) rfl rfl (of_decide_eq_true rfl) (len_cat (of_decide_eq_true rfl)) rfl rfl rfl
theorem i47_33 {d l0 l1 l2 t x y h Q} : Ev d 47 33 [l0, l1, l2] (.int y :: .int x :: t) h Q = if y ≤ x then Ev d 47 63 [l0, l1, l2] t h Q else Ev d 47 36 [l0, l1, l2] t h Q := en_ic_ge mm47 dX4_wordIs_33 rfl
theorem i47_36 {d a l1 l2 t h Q} : Ev d 47 36 [some (.ref a), l1, l2] t h Q = Ev d 47 37 [some (.ref a), l1, l2] (.ref a :: t) h Q := en_aload_n mm47 dX4_wordIs_36 rfl
theorem i47_37 {d a l0 l1 l2 t h Q} : Ev d 47 37 [l0, l1, l2] (.ref a :: t) h Q = (hk h a = 5 ∧ Ev d 47 40 [l0, l1, l2] (hF h a 0 :: t) h Q) := en_getfield (cj := 4) mm47 dX4_wordIs_37 (by decide +kernel)
theorem i47_40 {d a l1 l2 t h Q} : Ev d 47 40 [some (.ref a), l1, l2] t h Q = Ev d 47 41 [some (.ref a), l1, l2] (.ref a :: t) h Q := en_aload_n mm47 dX4_wordIs_40 rfl
theorem i47_41 {d a l0 l1 l2 t h Q} : Ev d 47 41 [l0, l1, l2] (.ref a :: t) h Q = (hk h a = 5 ∧ Ev d 47 44 [l0, l1, l2] (hF h a 4 :: t) h Q) := en_getfield (cj := 4) mm47 dX4_wordIs_41 (by decide +kernel)
theorem i47_44 {d l0 l1 t x h Q} : Ev d 47 44 [l0, l1, some (.int x)] t h Q = Ev d 47 45 [l0, l1, some (.int x)] (.int x :: t) h Q := en_iload_n mm47 dX4_wordIs_44 rfl
theorem i47_45 {d l0 l1 l2 t x y h Q} : Ev d 47 45 [l0, l1, l2] (.int y :: .int x :: t) h Q = Ev d 47 46 [l0, l1, l2] (.int (x + y) :: t) h Q := en_iadd mm47 dX4_wordIs_45
theorem i47_46 {d a j l0 l1 l2 t h Q} : Ev d 47 46 [l0, l1, l2] (.int j :: .ref a :: t) h Q = (hk h a = 11 ∧ inb j (hl h a) ∧ Ev d 47 47 [l0, l1, l2] (.int (hA h a j.toNatClampNeg) :: t) h Q) := en_baload mm47 dX4_wordIs_46
theorem i47_47 {d l0 l2 t x h Q} : Ev d 47 47 [l0, some x, l2] t h Q = (isR x = true ∧ Ev d 47 48 [l0, some x, l2] (x :: t) h Q) := en_aload_nV mm47 dX4_wordIs_47 rfl
theorem i47_48 {d l0 l1 t x h Q} : Ev d 47 48 [l0, l1, some (.int x)] t h Q = Ev d 47 49 [l0, l1, some (.int x)] (.int x :: t) h Q := en_iload_n mm47 dX4_wordIs_48 rfl
theorem i47_49 {d l0 l1 l2 x0 x1 x2 h Q} : Ev (d + 1) 47 49 [l0, l1, l2] [x0, x1, x2] h Q = (recv h 11 (some x1) = true ∧ EvM d 112 [x1, x0] h (konN (d + 1) 47 52 [l0, l1, l2] [x2] Q)) := en_virtualV mm47 dX4_wordIs_49 (by decide +kernel : ml _ _ = some (2, 112)) (by decide) (rfl : mtab[112]? = some _) (by decide +kernel : npar _ = 1) rfl rfl (of_decide_eq_true rfl) (len_cat (of_decide_eq_true rfl)) rfl rfl rfl
theorem i47_52 {d l0 l1 l2 t x y h Q} : Ev d 47 52 [l0, l1, l2] (.int y :: .int x :: t) h Q = if x = y then Ev d 47 57 [l0, l1, l2] t h Q else Ev d 47 55 [l0, l1, l2] t h Q := en_ic_eq mm47 dX4_wordIs_52 rfl
theorem i47_55 {d l0 l1 l2 t h Q} : Ev d 47 55 [l0, l1, l2] t h Q = Ev d 47 56 [l0, l1, l2] (.int 0 :: t) h Q := en_iconst mm47 dX4_wordIs_55 (by decide)
theorem i47_56 {d l0 l1 l2 x h Q} : Ev d 47 56 [l0, l1, l2] [.int x] h Q = (narrow .boolean (.int x) = .int x ∧ Q (.inl (some (.int x))) h) := en_ireturn mm47 dX4_wordIs_56 rfl
theorem i47_57 {d l0 l1 t x h Q} : Ev d 47 57 [l0, l1, some (.int x)] t h Q = Ev d 47 60 [l0, nl l1, some (.int (x + 1))] t h Q := en_iinc mm47 dX4_wordIs_57 rfl (by decide) rfl
theorem i47_60 {d l0 l1 l2 t h Q} : Ev d 47 60 [l0, l1, l2] t h Q = Ev d 47 28 [l0, l1, l2] t h Q := en_goto mm47 dX4_wordIs_60 rfl
theorem i47_63 {d l0 l1 l2 t h Q} : Ev d 47 63 [l0, l1, l2] t h Q = Ev d 47 64 [l0, l1, l2] (.int 1 :: t) h Q := en_iconst mm47 dX4_wordIs_63 (by decide)
theorem i47_64 {d l0 l1 l2 x h Q} : Ev d 47 64 [l0, l1, l2] [.int x] h Q = (narrow .boolean (.int x) = .int x ∧ Q (.inl (some (.int x))) h) := en_ireturn mm47 dX4_wordIs_64 rfl
abbrev em48 : MI := (yX4_readToken, cX4_readToken, 1, none, 4, [])
theorem mm48 : mtab[48]? = some em48 := rfl
theorem in48 {d : Nat} {h : AH} {K : AO → AH → Prop} {v0 : Nat} : EvM d 48 [(.ref v0)] h K = Ev d 48 0 [some (.ref v0)] [] h K := evm_in mm48 (of_decide_eq_true rfl) rfl
theorem i48_0 {d a t h Q} : Ev d 48 0 [some (.ref a)] t h Q = Ev d 48 1 [some (.ref a)] (.ref a :: t) h Q := en_aload_n mm48 dX4_readToken_0 rfl
theorem i48_1 {d a t h Q} : Ev d 48 1 [some (.ref a)] t h Q = Ev d 48 2 [some (.ref a)] (.ref a :: t) h Q := en_aload_n mm48 dX4_readToken_1 rfl
theorem i48_2 {d a l0 t h Q} : Ev d 48 2 [l0] (.ref a :: t) h Q = (hk h a = 5 ∧ Ev d 48 5 [l0] (hF h a 5 :: t) h Q) := en_getfield (cj := 4) mm48 dX4_readToken_2 (by decide +kernel)
theorem i48_5 {d a l0 t x h Q} : Ev d 48 5 [l0] (.int x :: .ref a :: t) h Q = (hk h a = 5 ∧ Ev d 48 8 [l0] t (wF h a 4 (.int x)) Q) := en_putfield (cj := 4) mm48 dX4_readToken_5 (by decide +kernel) rfl
theorem i48_8 {d a t h Q} : Ev d 48 8 [some (.ref a)] t h Q = Ev d 48 9 [some (.ref a)] (.ref a :: t) h Q := en_aload_n mm48 dX4_readToken_8 rfl
theorem i48_9 {d a l0 t h Q} : Ev d 48 9 [l0] (.ref a :: t) h Q = (hk h a = 5 ∧ Ev d 48 12 [l0] (hF h a 4 :: t) h Q) := en_getfield (cj := 4) mm48 dX4_readToken_9 (by decide +kernel)
theorem i48_12 {d a t h Q} : Ev d 48 12 [some (.ref a)] t h Q = Ev d 48 13 [some (.ref a)] (.ref a :: t) h Q := en_aload_n mm48 dX4_readToken_12 rfl
theorem i48_13 {d a l0 t h Q} : Ev d 48 13 [l0] (.ref a :: t) h Q = (hk h a = 5 ∧ Ev d 48 16 [l0] (hF h a 2 :: t) h Q) := en_getfield (cj := 4) mm48 dX4_readToken_13 (by decide +kernel)
theorem i48_16 {d l0 t x y h Q} : Ev d 48 16 [l0] (.int y :: .int x :: t) h Q = if y ≤ x then Ev d 48 46 [l0] t h Q else Ev d 48 19 [l0] t h Q := en_ic_ge mm48 dX4_readToken_16 rfl
theorem i48_19 {d a t h Q} : Ev d 48 19 [some (.ref a)] t h Q = Ev d 48 20 [some (.ref a)] (.ref a :: t) h Q := en_aload_n mm48 dX4_readToken_19 rfl
theorem i48_20 {d a l0 t h Q} : Ev d 48 20 [l0] (.ref a :: t) h Q = (hk h a = 5 ∧ Ev d 48 23 [l0] (hF h a 0 :: t) h Q) := en_getfield (cj := 4) mm48 dX4_readToken_20 (by decide +kernel)
theorem i48_23 {d a t h Q} : Ev d 48 23 [some (.ref a)] t h Q = Ev d 48 24 [some (.ref a)] (.ref a :: t) h Q := en_aload_n mm48 dX4_readToken_23 rfl
theorem i48_24 {d a l0 t h Q} : Ev d 48 24 [l0] (.ref a :: t) h Q = (hk h a = 5 ∧ Ev d 48 27 [l0] (hF h a 4 :: t) h Q) := en_getfield (cj := 4) mm48 dX4_readToken_24 (by decide +kernel)
theorem i48_27 {d a j l0 t h Q} : Ev d 48 27 [l0] (.int j :: .ref a :: t) h Q = (hk h a = 11 ∧ inb j (hl h a) ∧ Ev d 48 28 [l0] (.int (hA h a j.toNatClampNeg) :: t) h Q) := en_baload mm48 dX4_readToken_27
theorem i48_28 {d l0 t h Q} : Ev d 48 28 [l0] t h Q = Ev d 48 30 [l0] (.int 32 :: t) h Q := en_bipush mm48 dX4_readToken_28 (by decide)
theorem i48_30 {d l0 t x y h Q} : Ev d 48 30 [l0] (.int y :: .int x :: t) h Q = if x = y then Ev d 48 33 [l0] t h Q else Ev d 48 46 [l0] t h Q := en_ic_ne mm48 dX4_readToken_30 rfl
theorem i48_33 {d a t h Q} : Ev d 48 33 [some (.ref a)] t h Q = Ev d 48 34 [some (.ref a)] (.ref a :: t) h Q := en_aload_n mm48 dX4_readToken_33 rfl
theorem i48_34 {d a l0 t h Q} : Ev d 48 34 [l0] (.ref a :: t) h Q = Ev d 48 35 [l0] (.ref a :: .ref a :: t) h Q := en_dup mm48 dX4_readToken_34
theorem i48_35 {d a l0 t h Q} : Ev d 48 35 [l0] (.ref a :: t) h Q = (hk h a = 5 ∧ Ev d 48 38 [l0] (hF h a 4 :: t) h Q) := en_getfield (cj := 4) mm48 dX4_readToken_35 (by decide +kernel)
theorem i48_38 {d l0 t h Q} : Ev d 48 38 [l0] t h Q = Ev d 48 39 [l0] (.int 1 :: t) h Q := en_iconst mm48 dX4_readToken_38 (by decide)
theorem i48_39 {d l0 t x y h Q} : Ev d 48 39 [l0] (.int y :: .int x :: t) h Q = Ev d 48 40 [l0] (.int (x + y) :: t) h Q := en_iadd mm48 dX4_readToken_39
theorem i48_40 {d a l0 t x h Q} : Ev d 48 40 [l0] (.int x :: .ref a :: t) h Q = (hk h a = 5 ∧ Ev d 48 43 [l0] t (wF h a 4 (.int x)) Q) := en_putfield (cj := 4) mm48 dX4_readToken_40 (by decide +kernel) rfl
theorem i48_43 {d l0 t h Q} : Ev d 48 43 [l0] t h Q = Ev d 48 8 [l0] t h Q := en_goto mm48 dX4_readToken_43 rfl
theorem i48_46 {d a t h Q} : Ev d 48 46 [some (.ref a)] t h Q = Ev d 48 47 [some (.ref a)] (.ref a :: t) h Q := en_aload_n mm48 dX4_readToken_46 rfl
theorem i48_47 {d a t h Q} : Ev d 48 47 [some (.ref a)] t h Q = Ev d 48 48 [some (.ref a)] (.ref a :: t) h Q := en_aload_n mm48 dX4_readToken_47 rfl
theorem i48_48 {d a l0 t h Q} : Ev d 48 48 [l0] (.ref a :: t) h Q = (hk h a = 5 ∧ Ev d 48 51 [l0] (hF h a 4 :: t) h Q) := en_getfield (cj := 4) mm48 dX4_readToken_48 (by decide +kernel)
theorem i48_51 {d a l0 t x h Q} : Ev d 48 51 [l0] (.int x :: .ref a :: t) h Q = (hk h a = 5 ∧ Ev d 48 54 [l0] t (wF h a 5 (.int x)) Q) := en_putfield (cj := 4) mm48 dX4_readToken_51 (by decide +kernel) rfl
theorem i48_54 {d a t h Q} : Ev d 48 54 [some (.ref a)] t h Q = Ev d 48 55 [some (.ref a)] (.ref a :: t) h Q := en_aload_n mm48 dX4_readToken_54 rfl
theorem i48_55 {d a l0 t h Q} : Ev d 48 55 [l0] (.ref a :: t) h Q = (hk h a = 5 ∧ Ev d 48 58 [l0] (hF h a 4 :: t) h Q) := en_getfield (cj := 4) mm48 dX4_readToken_55 (by decide +kernel)
theorem i48_58 {d a t h Q} : Ev d 48 58 [some (.ref a)] t h Q = Ev d 48 59 [some (.ref a)] (.ref a :: t) h Q := en_aload_n mm48 dX4_readToken_58 rfl
theorem i48_59 {d a l0 t h Q} : Ev d 48 59 [l0] (.ref a :: t) h Q = (hk h a = 5 ∧ Ev d 48 62 [l0] (hF h a 2 :: t) h Q) := en_getfield (cj := 4) mm48 dX4_readToken_59 (by decide +kernel)
theorem i48_62 {d l0 t x y h Q} : Ev d 48 62 [l0] (.int y :: .int x :: t) h Q = if x < y then Ev d 48 73 [l0] t h Q else Ev d 48 65 [l0] t h Q := en_ic_lt mm48 dX4_readToken_62 rfl
theorem i48_65 {d a t h Q} : Ev d 48 65 [some (.ref a)] t h Q = Ev d 48 66 [some (.ref a)] (.ref a :: t) h Q := en_aload_n mm48 dX4_readToken_65 rfl
theorem i48_66 {d l0 t h Q} : Ev d 48 66 [l0] t h Q = Ev d 48 67 [l0] (.int 0 :: t) h Q := en_iconst mm48 dX4_readToken_66 (by decide)
theorem i48_67 {d a l0 t x h Q} : Ev d 48 67 [l0] (.int x :: .ref a :: t) h Q = (hk h a = 5 ∧ Ev d 48 70 [l0] t (wF h a 3 (.int x)) Q) := en_putfield (cj := 4) mm48 dX4_readToken_67 (by decide +kernel) rfl
theorem i48_70 {d l0 t h Q} : Ev d 48 70 [l0] t h Q = Ev d 48 206 [l0] t h Q := en_goto mm48 dX4_readToken_70 rfl
theorem i48_73 {d a t h Q} : Ev d 48 73 [some (.ref a)] t h Q = Ev d 48 74 [some (.ref a)] (.ref a :: t) h Q := en_aload_n mm48 dX4_readToken_73 rfl
theorem i48_74 {d a l0 t h Q} : Ev d 48 74 [l0] (.ref a :: t) h Q = (hk h a = 5 ∧ Ev d 48 77 [l0] (hF h a 0 :: t) h Q) := en_getfield (cj := 4) mm48 dX4_readToken_74 (by decide +kernel)
theorem i48_77 {d a t h Q} : Ev d 48 77 [some (.ref a)] t h Q = Ev d 48 78 [some (.ref a)] (.ref a :: t) h Q := en_aload_n mm48 dX4_readToken_77 rfl
theorem i48_78 {d a l0 t h Q} : Ev d 48 78 [l0] (.ref a :: t) h Q = (hk h a = 5 ∧ Ev d 48 81 [l0] (hF h a 4 :: t) h Q) := en_getfield (cj := 4) mm48 dX4_readToken_78 (by decide +kernel)
theorem i48_81 {d a j l0 t h Q} : Ev d 48 81 [l0] (.int j :: .ref a :: t) h Q = (hk h a = 11 ∧ inb j (hl h a) ∧ Ev d 48 82 [l0] (.int (hA h a j.toNatClampNeg) :: t) h Q) := en_baload mm48 dX4_readToken_81
theorem i48_82 {d l0 x0 h Q} : Ev (d + 1) 48 82 [l0] [x0] h Q = EvM d 49 [x0] h (konN (d + 1) 48 85 [l0] [] Q) := en_staticN mm48 dX4_readToken_82 (by decide +kernel : ml _ _ = some (0, 49)) (by decide) (rfl : mtab[49]? = some _) (by decide +kernel : npar _ = 1) (of_decide_eq_true rfl) (len_cat (of_decide_eq_true rfl)) rfl rfl rfl
theorem i48_85 {d l0 t x h Q} : Ev d 48 85 [l0] (.int x :: t) h Q = if x = 0 then Ev d 48 132 [l0] t h Q else Ev d 48 88 [l0] t h Q := en_if_eq mm48 dX4_readToken_85 rfl
theorem i48_88 {d a t h Q} : Ev d 48 88 [some (.ref a)] t h Q = Ev d 48 89 [some (.ref a)] (.ref a :: t) h Q := en_aload_n mm48 dX4_readToken_88 rfl
theorem i48_89 {d l0 t h Q} : Ev d 48 89 [l0] t h Q = Ev d 48 90 [l0] (.int 1 :: t) h Q := en_iconst mm48 dX4_readToken_89 (by decide)
theorem i48_90 {d a l0 t x h Q} : Ev d 48 90 [l0] (.int x :: .ref a :: t) h Q = (hk h a = 5 ∧ Ev d 48 93 [l0] t (wF h a 3 (.int x)) Q) := en_putfield (cj := 4) mm48 dX4_readToken_90 (by decide +kernel) rfl
theorem i48_93 {d a t h Q} : Ev d 48 93 [some (.ref a)] t h Q = Ev d 48 94 [some (.ref a)] (.ref a :: t) h Q := en_aload_n mm48 dX4_readToken_93 rfl
theorem i48_94 {d a l0 t h Q} : Ev d 48 94 [l0] (.ref a :: t) h Q = (hk h a = 5 ∧ Ev d 48 97 [l0] (hF h a 5 :: t) h Q) := en_getfield (cj := 4) mm48 dX4_readToken_94 (by decide +kernel)
theorem i48_97 {d a t h Q} : Ev d 48 97 [some (.ref a)] t h Q = Ev d 48 98 [some (.ref a)] (.ref a :: t) h Q := en_aload_n mm48 dX4_readToken_97 rfl
theorem i48_98 {d a l0 t h Q} : Ev d 48 98 [l0] (.ref a :: t) h Q = (hk h a = 5 ∧ Ev d 48 101 [l0] (hF h a 2 :: t) h Q) := en_getfield (cj := 4) mm48 dX4_readToken_98 (by decide +kernel)
theorem i48_101 {d l0 t x y h Q} : Ev d 48 101 [l0] (.int y :: .int x :: t) h Q = if y ≤ x then Ev d 48 206 [l0] t h Q else Ev d 48 104 [l0] t h Q := en_ic_ge mm48 dX4_readToken_101 rfl
theorem i48_104 {d a t h Q} : Ev d 48 104 [some (.ref a)] t h Q = Ev d 48 105 [some (.ref a)] (.ref a :: t) h Q := en_aload_n mm48 dX4_readToken_104 rfl
theorem i48_105 {d a l0 t h Q} : Ev d 48 105 [l0] (.ref a :: t) h Q = (hk h a = 5 ∧ Ev d 48 108 [l0] (hF h a 0 :: t) h Q) := en_getfield (cj := 4) mm48 dX4_readToken_105 (by decide +kernel)
theorem i48_108 {d a t h Q} : Ev d 48 108 [some (.ref a)] t h Q = Ev d 48 109 [some (.ref a)] (.ref a :: t) h Q := en_aload_n mm48 dX4_readToken_108 rfl
theorem i48_109 {d a l0 t h Q} : Ev d 48 109 [l0] (.ref a :: t) h Q = (hk h a = 5 ∧ Ev d 48 112 [l0] (hF h a 5 :: t) h Q) := en_getfield (cj := 4) mm48 dX4_readToken_109 (by decide +kernel)
theorem i48_112 {d a j l0 t h Q} : Ev d 48 112 [l0] (.int j :: .ref a :: t) h Q = (hk h a = 11 ∧ inb j (hl h a) ∧ Ev d 48 113 [l0] (.int (hA h a j.toNatClampNeg) :: t) h Q) := en_baload mm48 dX4_readToken_112
theorem i48_113 {d l0 x0 h Q} : Ev (d + 1) 48 113 [l0] [x0] h Q = EvM d 49 [x0] h (konN (d + 1) 48 116 [l0] [] Q) := en_staticN mm48 dX4_readToken_113 (by decide +kernel : ml _ _ = some (0, 49)) (by decide) (rfl : mtab[49]? = some _) (by decide +kernel : npar _ = 1) (of_decide_eq_true rfl) (len_cat (of_decide_eq_true rfl)) rfl rfl rfl
theorem i48_116 {d l0 t x h Q} : Ev d 48 116 [l0] (.int x :: t) h Q = if x = 0 then Ev d 48 206 [l0] t h Q else Ev d 48 119 [l0] t h Q := en_if_eq mm48 dX4_readToken_116 rfl
theorem i48_119 {d a t h Q} : Ev d 48 119 [some (.ref a)] t h Q = Ev d 48 120 [some (.ref a)] (.ref a :: t) h Q := en_aload_n mm48 dX4_readToken_119 rfl
theorem i48_120 {d a l0 t h Q} : Ev d 48 120 [l0] (.ref a :: t) h Q = Ev d 48 121 [l0] (.ref a :: .ref a :: t) h Q := en_dup mm48 dX4_readToken_120
theorem i48_121 {d a l0 t h Q} : Ev d 48 121 [l0] (.ref a :: t) h Q = (hk h a = 5 ∧ Ev d 48 124 [l0] (hF h a 5 :: t) h Q) := en_getfield (cj := 4) mm48 dX4_readToken_121 (by decide +kernel)
theorem i48_124 {d l0 t h Q} : Ev d 48 124 [l0] t h Q = Ev d 48 125 [l0] (.int 1 :: t) h Q := en_iconst mm48 dX4_readToken_124 (by decide)
theorem i48_125 {d l0 t x y h Q} : Ev d 48 125 [l0] (.int y :: .int x :: t) h Q = Ev d 48 126 [l0] (.int (x + y) :: t) h Q := en_iadd mm48 dX4_readToken_125
theorem i48_126 {d a l0 t x h Q} : Ev d 48 126 [l0] (.int x :: .ref a :: t) h Q = (hk h a = 5 ∧ Ev d 48 129 [l0] t (wF h a 5 (.int x)) Q) := en_putfield (cj := 4) mm48 dX4_readToken_126 (by decide +kernel) rfl
theorem i48_129 {d l0 t h Q} : Ev d 48 129 [l0] t h Q = Ev d 48 93 [l0] t h Q := en_goto mm48 dX4_readToken_129 rfl
theorem i48_132 {d a t h Q} : Ev d 48 132 [some (.ref a)] t h Q = Ev d 48 133 [some (.ref a)] (.ref a :: t) h Q := en_aload_n mm48 dX4_readToken_132 rfl
theorem i48_133 {d a l0 t h Q} : Ev d 48 133 [l0] (.ref a :: t) h Q = (hk h a = 5 ∧ Ev d 48 136 [l0] (hF h a 0 :: t) h Q) := en_getfield (cj := 4) mm48 dX4_readToken_133 (by decide +kernel)
theorem i48_136 {d a t h Q} : Ev d 48 136 [some (.ref a)] t h Q = Ev d 48 137 [some (.ref a)] (.ref a :: t) h Q := en_aload_n mm48 dX4_readToken_136 rfl
theorem i48_137 {d a l0 t h Q} : Ev d 48 137 [l0] (.ref a :: t) h Q = (hk h a = 5 ∧ Ev d 48 140 [l0] (hF h a 4 :: t) h Q) := en_getfield (cj := 4) mm48 dX4_readToken_137 (by decide +kernel)
theorem i48_140 {d a j l0 t h Q} : Ev d 48 140 [l0] (.int j :: .ref a :: t) h Q = (hk h a = 11 ∧ inb j (hl h a) ∧ Ev d 48 141 [l0] (.int (hA h a j.toNatClampNeg) :: t) h Q) := en_baload mm48 dX4_readToken_140
theorem i48_141 {d l0 x0 h Q} : Ev (d + 1) 48 141 [l0] [x0] h Q = EvM d 50 [x0] h (konN (d + 1) 48 144 [l0] [] Q) := en_staticN mm48 dX4_readToken_141 (by decide +kernel : ml _ _ = some (0, 50)) (by decide) (rfl : mtab[50]? = some _) (by decide +kernel : npar _ = 1) (of_decide_eq_true rfl) (len_cat (of_decide_eq_true rfl)) rfl rfl rfl
theorem i48_144 {d l0 t x h Q} : Ev d 48 144 [l0] (.int x :: t) h Q = if x = 0 then Ev d 48 191 [l0] t h Q else Ev d 48 147 [l0] t h Q := en_if_eq mm48 dX4_readToken_144 rfl
theorem i48_147 {d a t h Q} : Ev d 48 147 [some (.ref a)] t h Q = Ev d 48 148 [some (.ref a)] (.ref a :: t) h Q := en_aload_n mm48 dX4_readToken_147 rfl
theorem i48_148 {d l0 t h Q} : Ev d 48 148 [l0] t h Q = Ev d 48 149 [l0] (.int 2 :: t) h Q := en_iconst mm48 dX4_readToken_148 (by decide)
theorem i48_149 {d a l0 t x h Q} : Ev d 48 149 [l0] (.int x :: .ref a :: t) h Q = (hk h a = 5 ∧ Ev d 48 152 [l0] t (wF h a 3 (.int x)) Q) := en_putfield (cj := 4) mm48 dX4_readToken_149 (by decide +kernel) rfl
theorem i48_152 {d a t h Q} : Ev d 48 152 [some (.ref a)] t h Q = Ev d 48 153 [some (.ref a)] (.ref a :: t) h Q := en_aload_n mm48 dX4_readToken_152 rfl
theorem i48_153 {d a l0 t h Q} : Ev d 48 153 [l0] (.ref a :: t) h Q = (hk h a = 5 ∧ Ev d 48 156 [l0] (hF h a 5 :: t) h Q) := en_getfield (cj := 4) mm48 dX4_readToken_153 (by decide +kernel)
theorem i48_156 {d a t h Q} : Ev d 48 156 [some (.ref a)] t h Q = Ev d 48 157 [some (.ref a)] (.ref a :: t) h Q := en_aload_n mm48 dX4_readToken_156 rfl
theorem i48_157 {d a l0 t h Q} : Ev d 48 157 [l0] (.ref a :: t) h Q = (hk h a = 5 ∧ Ev d 48 160 [l0] (hF h a 2 :: t) h Q) := en_getfield (cj := 4) mm48 dX4_readToken_157 (by decide +kernel)
theorem i48_160 {d l0 t x y h Q} : Ev d 48 160 [l0] (.int y :: .int x :: t) h Q = if y ≤ x then Ev d 48 206 [l0] t h Q else Ev d 48 163 [l0] t h Q := en_ic_ge mm48 dX4_readToken_160 rfl
theorem i48_163 {d a t h Q} : Ev d 48 163 [some (.ref a)] t h Q = Ev d 48 164 [some (.ref a)] (.ref a :: t) h Q := en_aload_n mm48 dX4_readToken_163 rfl
theorem i48_164 {d a l0 t h Q} : Ev d 48 164 [l0] (.ref a :: t) h Q = (hk h a = 5 ∧ Ev d 48 167 [l0] (hF h a 0 :: t) h Q) := en_getfield (cj := 4) mm48 dX4_readToken_164 (by decide +kernel)
theorem i48_167 {d a t h Q} : Ev d 48 167 [some (.ref a)] t h Q = Ev d 48 168 [some (.ref a)] (.ref a :: t) h Q := en_aload_n mm48 dX4_readToken_167 rfl
theorem i48_168 {d a l0 t h Q} : Ev d 48 168 [l0] (.ref a :: t) h Q = (hk h a = 5 ∧ Ev d 48 171 [l0] (hF h a 5 :: t) h Q) := en_getfield (cj := 4) mm48 dX4_readToken_168 (by decide +kernel)
theorem i48_171 {d a j l0 t h Q} : Ev d 48 171 [l0] (.int j :: .ref a :: t) h Q = (hk h a = 11 ∧ inb j (hl h a) ∧ Ev d 48 172 [l0] (.int (hA h a j.toNatClampNeg) :: t) h Q) := en_baload mm48 dX4_readToken_171
theorem i48_172 {d l0 x0 h Q} : Ev (d + 1) 48 172 [l0] [x0] h Q = EvM d 50 [x0] h (konN (d + 1) 48 175 [l0] [] Q) := en_staticN mm48 dX4_readToken_172 (by decide +kernel : ml _ _ = some (0, 50)) (by decide) (rfl : mtab[50]? = some _) (by decide +kernel : npar _ = 1) (of_decide_eq_true rfl) (len_cat (of_decide_eq_true rfl)) rfl rfl rfl
theorem i48_175 {d l0 t x h Q} : Ev d 48 175 [l0] (.int x :: t) h Q = if x = 0 then Ev d 48 206 [l0] t h Q else Ev d 48 178 [l0] t h Q := en_if_eq mm48 dX4_readToken_175 rfl
theorem i48_178 {d a t h Q} : Ev d 48 178 [some (.ref a)] t h Q = Ev d 48 179 [some (.ref a)] (.ref a :: t) h Q := en_aload_n mm48 dX4_readToken_178 rfl
theorem i48_179 {d a l0 t h Q} : Ev d 48 179 [l0] (.ref a :: t) h Q = Ev d 48 180 [l0] (.ref a :: .ref a :: t) h Q := en_dup mm48 dX4_readToken_179
theorem i48_180 {d a l0 t h Q} : Ev d 48 180 [l0] (.ref a :: t) h Q = (hk h a = 5 ∧ Ev d 48 183 [l0] (hF h a 5 :: t) h Q) := en_getfield (cj := 4) mm48 dX4_readToken_180 (by decide +kernel)
theorem i48_183 {d l0 t h Q} : Ev d 48 183 [l0] t h Q = Ev d 48 184 [l0] (.int 1 :: t) h Q := en_iconst mm48 dX4_readToken_183 (by decide)
theorem i48_184 {d l0 t x y h Q} : Ev d 48 184 [l0] (.int y :: .int x :: t) h Q = Ev d 48 185 [l0] (.int (x + y) :: t) h Q := en_iadd mm48 dX4_readToken_184
theorem i48_185 {d a l0 t x h Q} : Ev d 48 185 [l0] (.int x :: .ref a :: t) h Q = (hk h a = 5 ∧ Ev d 48 188 [l0] t (wF h a 5 (.int x)) Q) := en_putfield (cj := 4) mm48 dX4_readToken_185 (by decide +kernel) rfl
theorem i48_188 {d l0 t h Q} : Ev d 48 188 [l0] t h Q = Ev d 48 152 [l0] t h Q := en_goto mm48 dX4_readToken_188 rfl
theorem i48_191 {d a t h Q} : Ev d 48 191 [some (.ref a)] t h Q = Ev d 48 192 [some (.ref a)] (.ref a :: t) h Q := en_aload_n mm48 dX4_readToken_191 rfl
theorem i48_192 {d l0 t h Q} : Ev d 48 192 [l0] t h Q = Ev d 48 193 [l0] (.int 3 :: t) h Q := en_iconst mm48 dX4_readToken_192 (by decide)
theorem i48_193 {d a l0 t x h Q} : Ev d 48 193 [l0] (.int x :: .ref a :: t) h Q = (hk h a = 5 ∧ Ev d 48 196 [l0] t (wF h a 3 (.int x)) Q) := en_putfield (cj := 4) mm48 dX4_readToken_193 (by decide +kernel) rfl
theorem i48_196 {d a t h Q} : Ev d 48 196 [some (.ref a)] t h Q = Ev d 48 197 [some (.ref a)] (.ref a :: t) h Q := en_aload_n mm48 dX4_readToken_196 rfl
theorem i48_197 {d a l0 t h Q} : Ev d 48 197 [l0] (.ref a :: t) h Q = Ev d 48 198 [l0] (.ref a :: .ref a :: t) h Q := en_dup mm48 dX4_readToken_197
theorem i48_198 {d a l0 t h Q} : Ev d 48 198 [l0] (.ref a :: t) h Q = (hk h a = 5 ∧ Ev d 48 201 [l0] (hF h a 5 :: t) h Q) := en_getfield (cj := 4) mm48 dX4_readToken_198 (by decide +kernel)
theorem i48_201 {d l0 t h Q} : Ev d 48 201 [l0] t h Q = Ev d 48 202 [l0] (.int 1 :: t) h Q := en_iconst mm48 dX4_readToken_201 (by decide)
theorem i48_202 {d l0 t x y h Q} : Ev d 48 202 [l0] (.int y :: .int x :: t) h Q = Ev d 48 203 [l0] (.int (x + y) :: t) h Q := en_iadd mm48 dX4_readToken_202
theorem i48_203 {d a l0 t x h Q} : Ev d 48 203 [l0] (.int x :: .ref a :: t) h Q = (hk h a = 5 ∧ Ev d 48 206 [l0] t (wF h a 5 (.int x)) Q) := en_putfield (cj := 4) mm48 dX4_readToken_203 (by decide +kernel) rfl
theorem i48_206 {d l0 h Q} : Ev d 48 206 [l0] [] h Q = Q (.inl none) h := en_return mm48 dX4_readToken_206 rfl
abbrev em49 : MI := (yX4_isDigit, cX4_isDigit, 1, some .boolean, 4, [])
theorem mm49 : mtab[49]? = some em49 := rfl
theorem in49 {d : Nat} {h : AH} {K : AO → AH → Prop} {v0 : Int32} : EvM d 49 [(.int v0)] h K = Ev d 49 0 [some (.int v0)] [] h K := evm_in mm49 (of_decide_eq_true rfl) rfl
theorem i49_0 {d t x h Q} : Ev d 49 0 [some (.int x)] t h Q = Ev d 49 1 [some (.int x)] (.int x :: t) h Q := en_iload_n mm49 dX4_isDigit_0 rfl
theorem i49_1 {d l0 t h Q} : Ev d 49 1 [l0] t h Q = Ev d 49 3 [l0] (.int 48 :: t) h Q := en_bipush mm49 dX4_isDigit_1 (by decide)
theorem i49_3 {d l0 t x y h Q} : Ev d 49 3 [l0] (.int y :: .int x :: t) h Q = if x < y then Ev d 49 16 [l0] t h Q else Ev d 49 6 [l0] t h Q := en_ic_lt mm49 dX4_isDigit_3 rfl
theorem i49_6 {d t x h Q} : Ev d 49 6 [some (.int x)] t h Q = Ev d 49 7 [some (.int x)] (.int x :: t) h Q := en_iload_n mm49 dX4_isDigit_6 rfl
theorem i49_7 {d l0 t h Q} : Ev d 49 7 [l0] t h Q = Ev d 49 9 [l0] (.int 57 :: t) h Q := en_bipush mm49 dX4_isDigit_7 (by decide)
theorem i49_9 {d l0 t x y h Q} : Ev d 49 9 [l0] (.int y :: .int x :: t) h Q = if y < x then Ev d 49 16 [l0] t h Q else Ev d 49 12 [l0] t h Q := en_ic_gt mm49 dX4_isDigit_9 rfl
theorem i49_12 {d l0 t h Q} : Ev d 49 12 [l0] t h Q = Ev d 49 13 [l0] (.int 1 :: t) h Q := en_iconst mm49 dX4_isDigit_12 (by decide)
theorem i49_13 {d l0 t h Q} : Ev d 49 13 [l0] t h Q = Ev d 49 17 [l0] t h Q := en_goto mm49 dX4_isDigit_13 rfl
theorem i49_16 {d l0 t h Q} : Ev d 49 16 [l0] t h Q = Ev d 49 17 [l0] (.int 0 :: t) h Q := en_iconst mm49 dX4_isDigit_16 (by decide)
theorem i49_17 {d l0 x h Q} : Ev d 49 17 [l0] [.int x] h Q = (narrow .boolean (.int x) = .int x ∧ Q (.inl (some (.int x))) h) := en_ireturn mm49 dX4_isDigit_17 rfl
abbrev em50 : MI := (yX4_isLetter, cX4_isLetter, 1, some .boolean, 4, [])
theorem mm50 : mtab[50]? = some em50 := rfl
theorem in50 {d : Nat} {h : AH} {K : AO → AH → Prop} {v0 : Int32} : EvM d 50 [(.int v0)] h K = Ev d 50 0 [some (.int v0)] [] h K := evm_in mm50 (of_decide_eq_true rfl) rfl
theorem i50_0 {d t x h Q} : Ev d 50 0 [some (.int x)] t h Q = Ev d 50 1 [some (.int x)] (.int x :: t) h Q := en_iload_n mm50 dX4_isLetter_0 rfl
theorem i50_1 {d l0 t h Q} : Ev d 50 1 [l0] t h Q = Ev d 50 3 [l0] (.int 97 :: t) h Q := en_bipush mm50 dX4_isLetter_1 (by decide)
theorem i50_3 {d l0 t x y h Q} : Ev d 50 3 [l0] (.int y :: .int x :: t) h Q = if x < y then Ev d 50 16 [l0] t h Q else Ev d 50 6 [l0] t h Q := en_ic_lt mm50 dX4_isLetter_3 rfl
theorem i50_6 {d t x h Q} : Ev d 50 6 [some (.int x)] t h Q = Ev d 50 7 [some (.int x)] (.int x :: t) h Q := en_iload_n mm50 dX4_isLetter_6 rfl
theorem i50_7 {d l0 t h Q} : Ev d 50 7 [l0] t h Q = Ev d 50 9 [l0] (.int 122 :: t) h Q := en_bipush mm50 dX4_isLetter_7 (by decide)
theorem i50_9 {d l0 t x y h Q} : Ev d 50 9 [l0] (.int y :: .int x :: t) h Q = if y < x then Ev d 50 16 [l0] t h Q else Ev d 50 12 [l0] t h Q := en_ic_gt mm50 dX4_isLetter_9 rfl
theorem i50_12 {d l0 t h Q} : Ev d 50 12 [l0] t h Q = Ev d 50 13 [l0] (.int 1 :: t) h Q := en_iconst mm50 dX4_isLetter_12 (by decide)
theorem i50_13 {d l0 t h Q} : Ev d 50 13 [l0] t h Q = Ev d 50 17 [l0] t h Q := en_goto mm50 dX4_isLetter_13 rfl
theorem i50_16 {d l0 t h Q} : Ev d 50 16 [l0] t h Q = Ev d 50 17 [l0] (.int 0 :: t) h Q := en_iconst mm50 dX4_isLetter_16 (by decide)
theorem i50_17 {d l0 x h Q} : Ev d 50 17 [l0] [.int x] h Q = (narrow .boolean (.int x) = .int x ∧ Q (.inl (some (.int x))) h) := en_ireturn mm50 dX4_isLetter_17 rfl
abbrev em51 : MI := (yX5_init, cX5_init, 2, none, 5, [])
theorem mm51 : mtab[51]? = some em51 := rfl
theorem in51 {d : Nat} {h : AH} {K : AO → AH → Prop} {v0 : Nat} : EvM d 51 [(.ref v0)] h K = Ev d 51 0 [some (.ref v0), none] [] h K := evm_in mm51 (of_decide_eq_true rfl) rfl
theorem i51_0 {d a l1 t h Q} : Ev d 51 0 [some (.ref a), l1] t h Q = Ev d 51 1 [some (.ref a), l1] (.ref a :: t) h Q := en_aload_n mm51 dX5_init_0 rfl
theorem i51_1 {d a l0 l1 h Q} : Ev (d + 1) 51 1 [l0, l1] [.ref a] h Q = Ev (d + 1) 51 4 [l0, l1] [] h Q := en_objinit mm51 dX5_init_1 (by decide +kernel) (of_decide_eq_true rfl)
theorem i51_4 {d l0 l1 t h Q} : Ev d 51 4 [l0, l1] t h Q = Ev d 51 7 [l0, l1] (.ref (hN h) :: t) (alO h 4 11 (dfl 3)) Q := en_new mm51 dX5_init_4 (by decide +kernel : look _ clsT = some (82, 3)) rfl
theorem i51_7 {d a l0 l1 t h Q} : Ev d 51 7 [l0, l1] (.ref a :: t) h Q = Ev d 51 8 [l0, l1] (.ref a :: .ref a :: t) h Q := en_dup mm51 dX5_init_7
theorem i51_8 {d a l0 l1 x1 h Q} : Ev (d + 1) 51 8 [l0, l1] [.ref a, x1] h Q = (hk h a = 4 ∧ EvM d 30 [.ref a] h (konN (d + 1) 51 11 [l0, l1] [x1] Q)) := en_specialN mm51 dX5_init_8 (by decide +kernel : ml _ _ = some (5, 30)) (by decide) (rfl : mtab[30]? = some _) (by decide +kernel : npar _ = 0) rfl (by decide) rfl (of_decide_eq_true rfl) (len_cat (of_decide_eq_true rfl)) rfl rfl rfl
theorem i51_11 {d a l0 l1 t h Q} : Ev d 51 11 [l0, l1] (.ref a :: t) h Q = Ev d 51 12 [nl l0, some (.ref a)] t h Q := en_astore_n mm51 dX5_init_11 (of_decide_eq_true rfl) rfl
theorem i51_12 {d a l1 t h Q} : Ev d 51 12 [some (.ref a), l1] t h Q = Ev d 51 13 [some (.ref a), l1] (.ref a :: t) h Q := en_aload_n mm51 dX5_init_12 rfl
theorem i51_13 {d l0 l1 t h Q} : Ev d 51 13 [l0, l1] t h Q = Ev d 51 16 [l0, l1] (.ref (hN h) :: t) (alO h 5 13 (dfl 4)) Q := en_new mm51 dX5_init_13 (by decide +kernel : look _ clsT = some (168, 4)) rfl
theorem i51_16 {d a l0 l1 t h Q} : Ev d 51 16 [l0, l1] (.ref a :: t) h Q = Ev d 51 17 [l0, l1] (.ref a :: .ref a :: t) h Q := en_dup mm51 dX5_init_16
theorem i51_17 {d a l0 l1 x1 x2 h Q} : Ev (d + 1) 51 17 [l0, l1] [.ref a, x1, x2] h Q = (hk h a = 5 ∧ EvM d 31 [.ref a] h (konN (d + 1) 51 20 [l0, l1] [x1, x2] Q)) := en_specialN mm51 dX5_init_17 (by decide +kernel : ml _ _ = some (5, 31)) (by decide) (rfl : mtab[31]? = some _) (by decide +kernel : npar _ = 0) rfl (by decide) rfl (of_decide_eq_true rfl) (len_cat (of_decide_eq_true rfl)) rfl rfl rfl
theorem i51_20 {d a b l0 l1 t h Q} : Ev d 51 20 [l0, l1] (.ref b :: .ref a :: t) h Q = (hk h a = 6 ∧ Ev d 51 23 [l0, l1] t (wF h a 0 (.ref b)) Q) := en_putfield (cj := 5) mm51 dX5_init_20 (by decide +kernel) rfl
theorem i51_23 {d a l1 t h Q} : Ev d 51 23 [some (.ref a), l1] t h Q = Ev d 51 24 [some (.ref a), l1] (.ref a :: t) h Q := en_aload_n mm51 dX5_init_23 rfl
theorem i51_24 {d l0 l1 t h Q} : Ev d 51 24 [l0, l1] t h Q = Ev d 51 27 [l0, l1] (.ref (hN h) :: t) (alO h 3 15 (dfl 2)) Q := en_new mm51 dX5_init_24 (by decide +kernel : look _ clsT = some (221, 2)) rfl
theorem i51_27 {d a l0 l1 t h Q} : Ev d 51 27 [l0, l1] (.ref a :: t) h Q = Ev d 51 28 [l0, l1] (.ref a :: .ref a :: t) h Q := en_dup mm51 dX5_init_27
theorem i51_28 {d a l0 t h Q} : Ev d 51 28 [l0, some (.ref a)] t h Q = Ev d 51 29 [l0, some (.ref a)] (.ref a :: t) h Q := en_aload_n mm51 dX5_init_28 rfl
theorem i51_29 {d a l0 l1 x0 x2 x3 h Q} : Ev (d + 1) 51 29 [l0, l1] [x0, .ref a, x2, x3] h Q = (hk h a = 3 ∧ EvM d 6 [.ref a, x0] h (konN (d + 1) 51 32 [l0, l1] [x2, x3] Q)) := en_specialN mm51 dX5_init_29 (by decide +kernel : ml _ _ = some (5, 6)) (by decide) (rfl : mtab[6]? = some _) (by decide +kernel : npar _ = 1) rfl (by decide) rfl (of_decide_eq_true rfl) (len_cat (of_decide_eq_true rfl)) rfl rfl rfl
theorem i51_32 {d a b l0 l1 t h Q} : Ev d 51 32 [l0, l1] (.ref b :: .ref a :: t) h Q = (hk h a = 6 ∧ Ev d 51 35 [l0, l1] t (wF h a 1 (.ref b)) Q) := en_putfield (cj := 5) mm51 dX5_init_32 (by decide +kernel) rfl
theorem i51_35 {d a l1 t h Q} : Ev d 51 35 [some (.ref a), l1] t h Q = Ev d 51 36 [some (.ref a), l1] (.ref a :: t) h Q := en_aload_n mm51 dX5_init_35 rfl
theorem i51_36 {d l0 l1 t h Q} : Ev d 51 36 [l0, l1] t h Q = Ev d 51 39 [l0, l1] (.ref (hN h) :: t) (alO h 3 15 (dfl 2)) Q := en_new mm51 dX5_init_36 (by decide +kernel : look _ clsT = some (221, 2)) rfl
theorem i51_39 {d a l0 l1 t h Q} : Ev d 51 39 [l0, l1] (.ref a :: t) h Q = Ev d 51 40 [l0, l1] (.ref a :: .ref a :: t) h Q := en_dup mm51 dX5_init_39
theorem i51_40 {d a l0 t h Q} : Ev d 51 40 [l0, some (.ref a)] t h Q = Ev d 51 41 [l0, some (.ref a)] (.ref a :: t) h Q := en_aload_n mm51 dX5_init_40 rfl
theorem i51_41 {d a l0 l1 x0 x2 x3 h Q} : Ev (d + 1) 51 41 [l0, l1] [x0, .ref a, x2, x3] h Q = (hk h a = 3 ∧ EvM d 6 [.ref a, x0] h (konN (d + 1) 51 44 [l0, l1] [x2, x3] Q)) := en_specialN mm51 dX5_init_41 (by decide +kernel : ml _ _ = some (5, 6)) (by decide) (rfl : mtab[6]? = some _) (by decide +kernel : npar _ = 1) rfl (by decide) rfl (of_decide_eq_true rfl) (len_cat (of_decide_eq_true rfl)) rfl rfl rfl
theorem i51_44 {d a b l0 l1 t h Q} : Ev d 51 44 [l0, l1] (.ref b :: .ref a :: t) h Q = (hk h a = 6 ∧ Ev d 51 47 [l0, l1] t (wF h a 2 (.ref b)) Q) := en_putfield (cj := 5) mm51 dX5_init_44 (by decide +kernel) rfl
theorem i51_47 {d a l1 t h Q} : Ev d 51 47 [some (.ref a), l1] t h Q = Ev d 51 48 [some (.ref a), l1] (.ref a :: t) h Q := en_aload_n mm51 dX5_init_47 rfl
theorem i51_48 {d l0 l1 t h Q} : Ev d 51 48 [l0, l1] t h Q = Ev d 51 51 [l0, l1] (.ref (hN h) :: t) (alO h 2 3 (dfl 1)) Q := en_new mm51 dX5_init_48 (by decide +kernel : look _ clsT = some (288, 1)) rfl
theorem i51_51 {d a l0 l1 t h Q} : Ev d 51 51 [l0, l1] (.ref a :: t) h Q = Ev d 51 52 [l0, l1] (.ref a :: .ref a :: t) h Q := en_dup mm51 dX5_init_51
theorem i51_52 {d a l0 t h Q} : Ev d 51 52 [l0, some (.ref a)] t h Q = Ev d 51 53 [l0, some (.ref a)] (.ref a :: t) h Q := en_aload_n mm51 dX5_init_52 rfl
theorem i51_53 {d a l0 l1 x0 x2 x3 h Q} : Ev (d + 1) 51 53 [l0, l1] [x0, .ref a, x2, x3] h Q = (hk h a = 2 ∧ EvM d 3 [.ref a, x0] h (konN (d + 1) 51 56 [l0, l1] [x2, x3] Q)) := en_specialN mm51 dX5_init_53 (by decide +kernel : ml _ _ = some (5, 3)) (by decide) (rfl : mtab[3]? = some _) (by decide +kernel : npar _ = 1) rfl (by decide) rfl (of_decide_eq_true rfl) (len_cat (of_decide_eq_true rfl)) rfl rfl rfl
theorem i51_56 {d a b l0 l1 t h Q} : Ev d 51 56 [l0, l1] (.ref b :: .ref a :: t) h Q = (hk h a = 6 ∧ Ev d 51 59 [l0, l1] t (wF h a 3 (.ref b)) Q) := en_putfield (cj := 5) mm51 dX5_init_56 (by decide +kernel) rfl
theorem i51_59 {d l0 l1 h Q} : Ev d 51 59 [l0, l1] [] h Q = Q (.inl none) h := en_return mm51 dX5_init_59 rfl
abbrev em52 : MI := (yX5_append, cX5_append, 6, some .int, 5, [])
theorem mm52 : mtab[52]? = some em52 := rfl
theorem in52 {d : Nat} {h : AH} {K : AO → AH → Prop} {v0 : Nat} {v1 : Int32} {v2 : Int32} {v3 : Int32} {v4 : Int32} {v5 : Int32} : EvM d 52 [(.ref v0), (.int v1), (.int v2), (.int v3), (.int v4), (.int v5)] h K = Ev d 52 0 [some (.ref v0), some (.int v1), some (.int v2), some (.int v3), some (.int v4), some (.int v5)] [] h K := evm_in mm52 (of_decide_eq_true rfl) rfl
theorem i52_0 {d a l1 l2 l3 l4 l5 t h Q} : Ev d 52 0 [some (.ref a), l1, l2, l3, l4, l5] t h Q = Ev d 52 1 [some (.ref a), l1, l2, l3, l4, l5] (.ref a :: t) h Q := en_aload_n mm52 dX5_append_0 rfl
theorem i52_1 {d a l0 l1 l2 l3 l4 l5 t h Q} : Ev d 52 1 [l0, l1, l2, l3, l4, l5] (.ref a :: t) h Q = (hk h a = 6 ∧ Ev d 52 4 [l0, l1, l2, l3, l4, l5] (hF h a 0 :: t) h Q) := en_getfield (cj := 5) mm52 dX5_append_1 (by decide +kernel)
theorem i52_4 {d a l0 l1 l2 l3 l4 l5 t h Q} : Ev d 52 4 [l0, l1, l2, l3, l4, l5] (.ref a :: t) h Q = (hk h a = 5 ∧ Ev d 52 7 [l0, l1, l2, l3, l4, l5] (hF h a 1 :: t) h Q) := en_getfield (cj := 4) mm52 dX5_append_4 (by decide +kernel)
theorem i52_7 {d l0 l1 l2 l3 l4 l5 t h Q} : Ev d 52 7 [l0, l1, l2, l3, l4, l5] t h Q = Ev d 52 9 [l0, l1, l2, l3, l4, l5] (.int 20 :: t) h Q := en_bipush mm52 dX5_append_7 (by decide)
theorem i52_9 {d l0 l1 l2 l3 l4 l5 t x y h Q} : Ev d 52 9 [l0, l1, l2, l3, l4, l5] (.int y :: .int x :: t) h Q = Ev d 52 10 [l0, l1, l2, l3, l4, l5] (.int (x + y) :: t) h Q := en_iadd mm52 dX5_append_9
theorem i52_10 {d l0 l1 l2 l3 l4 l5 t h Q} : Ev d 52 10 [l0, l1, l2, l3, l4, l5] t h Q = Ev d 52 13 [l0, l1, l2, l3, l4, l5] (.int 700 :: t) h Q := en_sipush mm52 dX5_append_10 (by decide)
theorem i52_13 {d l0 l1 l2 l3 l4 l5 t x y h Q} : Ev d 52 13 [l0, l1, l2, l3, l4, l5] (.int y :: .int x :: t) h Q = if x ≤ y then Ev d 52 18 [l0, l1, l2, l3, l4, l5] t h Q else Ev d 52 16 [l0, l1, l2, l3, l4, l5] t h Q := en_ic_le mm52 dX5_append_13 rfl
theorem i52_16 {d l0 l1 l2 l3 l4 l5 t h Q} : Ev d 52 16 [l0, l1, l2, l3, l4, l5] t h Q = Ev d 52 17 [l0, l1, l2, l3, l4, l5] (.int (-1) :: t) h Q := en_iconst mm52 dX5_append_16 (by decide)
theorem i52_17 {d l0 l1 l2 l3 l4 l5 x h Q} : Ev d 52 17 [l0, l1, l2, l3, l4, l5] [.int x] h Q = Q (.inl (some (.int x))) h := en_ireturnI mm52 dX5_append_17 rfl
theorem i52_18 {d a l1 l2 l3 l4 l5 t h Q} : Ev d 52 18 [some (.ref a), l1, l2, l3, l4, l5] t h Q = Ev d 52 19 [some (.ref a), l1, l2, l3, l4, l5] (.ref a :: t) h Q := en_aload_n mm52 dX5_append_18 rfl
theorem i52_19 {d a l0 l1 l2 l3 l4 l5 t h Q} : Ev d 52 19 [l0, l1, l2, l3, l4, l5] (.ref a :: t) h Q = (hk h a = 6 ∧ Ev d 52 22 [l0, l1, l2, l3, l4, l5] (hF h a 0 :: t) h Q) := en_getfield (cj := 5) mm52 dX5_append_19 (by decide +kernel)
theorem i52_22 {d l0 l2 l3 l4 l5 t x h Q} : Ev d 52 22 [l0, some (.int x), l2, l3, l4, l5] t h Q = Ev d 52 23 [l0, some (.int x), l2, l3, l4, l5] (.int x :: t) h Q := en_iload_n mm52 dX5_append_22 rfl
theorem i52_23 {d a l0 l1 l2 l3 l4 l5 x0 h Q} : Ev (d + 1) 52 23 [l0, l1, l2, l3, l4, l5] [x0, .ref a] h Q = (hk h a = 5 ∧ EvM d 32 [.ref a, x0] h (konN (d + 1) 52 26 [l0, l1, l2, l3, l4, l5] [] Q)) := en_virtualN mm52 dX5_append_23 (by decide +kernel : ml _ _ = some (3, 32)) (by decide) (rfl : mtab[32]? = some _) (by decide +kernel : npar _ = 1) rfl (by decide) rfl (of_decide_eq_true rfl) (len_cat (of_decide_eq_true rfl)) rfl rfl rfl
theorem i52_26 {d a l1 l2 l3 l4 l5 t h Q} : Ev d 52 26 [some (.ref a), l1, l2, l3, l4, l5] t h Q = Ev d 52 27 [some (.ref a), l1, l2, l3, l4, l5] (.ref a :: t) h Q := en_aload_n mm52 dX5_append_26 rfl
theorem i52_27 {d a l0 l1 l2 l3 l4 l5 t h Q} : Ev d 52 27 [l0, l1, l2, l3, l4, l5] (.ref a :: t) h Q = (hk h a = 6 ∧ Ev d 52 30 [l0, l1, l2, l3, l4, l5] (hF h a 0 :: t) h Q) := en_getfield (cj := 5) mm52 dX5_append_27 (by decide +kernel)
theorem i52_30 {d l0 l1 l3 l4 l5 t x h Q} : Ev d 52 30 [l0, l1, some (.int x), l3, l4, l5] t h Q = Ev d 52 31 [l0, l1, some (.int x), l3, l4, l5] (.int x :: t) h Q := en_iload_n mm52 dX5_append_30 rfl
theorem i52_31 {d a l0 l1 l2 l3 l4 l5 x0 h Q} : Ev (d + 1) 52 31 [l0, l1, l2, l3, l4, l5] [x0, .ref a] h Q = (hk h a = 5 ∧ EvM d 32 [.ref a, x0] h (konN (d + 1) 52 34 [l0, l1, l2, l3, l4, l5] [] Q)) := en_virtualN mm52 dX5_append_31 (by decide +kernel : ml _ _ = some (3, 32)) (by decide) (rfl : mtab[32]? = some _) (by decide +kernel : npar _ = 1) rfl (by decide) rfl (of_decide_eq_true rfl) (len_cat (of_decide_eq_true rfl)) rfl rfl rfl
theorem i52_34 {d a l1 l2 l3 l4 l5 t h Q} : Ev d 52 34 [some (.ref a), l1, l2, l3, l4, l5] t h Q = Ev d 52 35 [some (.ref a), l1, l2, l3, l4, l5] (.ref a :: t) h Q := en_aload_n mm52 dX5_append_34 rfl
theorem i52_35 {d a l0 l1 l2 l3 l4 l5 t h Q} : Ev d 52 35 [l0, l1, l2, l3, l4, l5] (.ref a :: t) h Q = (hk h a = 6 ∧ Ev d 52 38 [l0, l1, l2, l3, l4, l5] (hF h a 0 :: t) h Q) := en_getfield (cj := 5) mm52 dX5_append_35 (by decide +kernel)
theorem i52_38 {d l0 l1 l2 l4 l5 t x h Q} : Ev d 52 38 [l0, l1, l2, some (.int x), l4, l5] t h Q = Ev d 52 39 [l0, l1, l2, some (.int x), l4, l5] (.int x :: t) h Q := en_iload_n mm52 dX5_append_38 rfl
theorem i52_39 {d a l0 l1 l2 l3 l4 l5 x0 h Q} : Ev (d + 1) 52 39 [l0, l1, l2, l3, l4, l5] [x0, .ref a] h Q = (hk h a = 5 ∧ EvM d 32 [.ref a, x0] h (konN (d + 1) 52 42 [l0, l1, l2, l3, l4, l5] [] Q)) := en_virtualN mm52 dX5_append_39 (by decide +kernel : ml _ _ = some (3, 32)) (by decide) (rfl : mtab[32]? = some _) (by decide +kernel : npar _ = 1) rfl (by decide) rfl (of_decide_eq_true rfl) (len_cat (of_decide_eq_true rfl)) rfl rfl rfl
theorem i52_42 {d a l1 l2 l3 l4 l5 t h Q} : Ev d 52 42 [some (.ref a), l1, l2, l3, l4, l5] t h Q = Ev d 52 43 [some (.ref a), l1, l2, l3, l4, l5] (.ref a :: t) h Q := en_aload_n mm52 dX5_append_42 rfl
theorem i52_43 {d a l0 l1 l2 l3 l4 l5 t h Q} : Ev d 52 43 [l0, l1, l2, l3, l4, l5] (.ref a :: t) h Q = (hk h a = 6 ∧ Ev d 52 46 [l0, l1, l2, l3, l4, l5] (hF h a 0 :: t) h Q) := en_getfield (cj := 5) mm52 dX5_append_43 (by decide +kernel)
theorem i52_46 {d l0 l1 l2 l3 l5 t x h Q} : Ev d 52 46 [l0, l1, l2, l3, some (.int x), l5] t h Q = Ev d 52 48 [l0, l1, l2, l3, some (.int x), l5] (.int x :: t) h Q := en_iload mm52 dX5_append_46 rfl
theorem i52_48 {d a l0 l1 l2 l3 l4 l5 x0 h Q} : Ev (d + 1) 52 48 [l0, l1, l2, l3, l4, l5] [x0, .ref a] h Q = (hk h a = 5 ∧ EvM d 32 [.ref a, x0] h (konN (d + 1) 52 51 [l0, l1, l2, l3, l4, l5] [] Q)) := en_virtualN mm52 dX5_append_48 (by decide +kernel : ml _ _ = some (3, 32)) (by decide) (rfl : mtab[32]? = some _) (by decide +kernel : npar _ = 1) rfl (by decide) rfl (of_decide_eq_true rfl) (len_cat (of_decide_eq_true rfl)) rfl rfl rfl
theorem i52_51 {d a l1 l2 l3 l4 l5 t h Q} : Ev d 52 51 [some (.ref a), l1, l2, l3, l4, l5] t h Q = Ev d 52 52 [some (.ref a), l1, l2, l3, l4, l5] (.ref a :: t) h Q := en_aload_n mm52 dX5_append_51 rfl
theorem i52_52 {d a l0 l1 l2 l3 l4 l5 t h Q} : Ev d 52 52 [l0, l1, l2, l3, l4, l5] (.ref a :: t) h Q = (hk h a = 6 ∧ Ev d 52 55 [l0, l1, l2, l3, l4, l5] (hF h a 0 :: t) h Q) := en_getfield (cj := 5) mm52 dX5_append_52 (by decide +kernel)
theorem i52_55 {d l0 l1 l2 l3 l4 t x h Q} : Ev d 52 55 [l0, l1, l2, l3, l4, some (.int x)] t h Q = Ev d 52 57 [l0, l1, l2, l3, l4, some (.int x)] (.int x :: t) h Q := en_iload mm52 dX5_append_55 rfl
theorem i52_57 {d a l0 l1 l2 l3 l4 l5 x0 h Q} : Ev (d + 1) 52 57 [l0, l1, l2, l3, l4, l5] [x0, .ref a] h Q = (hk h a = 5 ∧ EvM d 32 [.ref a, x0] h (konN (d + 1) 52 60 [l0, l1, l2, l3, l4, l5] [] Q)) := en_virtualN mm52 dX5_append_57 (by decide +kernel : ml _ _ = some (3, 32)) (by decide) (rfl : mtab[32]? = some _) (by decide +kernel : npar _ = 1) rfl (by decide) rfl (of_decide_eq_true rfl) (len_cat (of_decide_eq_true rfl)) rfl rfl rfl
theorem i52_60 {d a l1 l2 l3 l4 l5 t h Q} : Ev d 52 60 [some (.ref a), l1, l2, l3, l4, l5] t h Q = Ev d 52 61 [some (.ref a), l1, l2, l3, l4, l5] (.ref a :: t) h Q := en_aload_n mm52 dX5_append_60 rfl
theorem i52_61 {d a l0 l1 l2 l3 l4 l5 t h Q} : Ev d 52 61 [l0, l1, l2, l3, l4, l5] (.ref a :: t) h Q = (hk h a = 6 ∧ Ev d 52 64 [l0, l1, l2, l3, l4, l5] (hF h a 0 :: t) h Q) := en_getfield (cj := 5) mm52 dX5_append_61 (by decide +kernel)
theorem i52_64 {d a l0 l1 l2 l3 l4 l5 t h Q} : Ev d 52 64 [l0, l1, l2, l3, l4, l5] (.ref a :: t) h Q = (hk h a = 5 ∧ Ev d 52 67 [l0, l1, l2, l3, l4, l5] (hF h a 1 :: t) h Q) := en_getfield (cj := 4) mm52 dX5_append_64 (by decide +kernel)
theorem i52_67 {d l0 l1 l2 l3 l4 l5 x h Q} : Ev d 52 67 [l0, l1, l2, l3, l4, l5] [.int x] h Q = Q (.inl (some (.int x))) h := en_ireturnI mm52 dX5_append_67 rfl
abbrev em53 : MI := (yX5_load, cX5_load, 2, some .int, 5, [])
theorem mm53 : mtab[53]? = some em53 := rfl
theorem in53 {d : Nat} {h : AH} {K : AO → AH → Prop} {v0 : Nat} {v1 : Int32} : EvM d 53 [(.ref v0), (.int v1)] h K = Ev d 53 0 [some (.ref v0), some (.int v1)] [] h K := evm_in mm53 (of_decide_eq_true rfl) rfl
theorem i53_0 {d l0 t x h Q} : Ev d 53 0 [l0, some (.int x)] t h Q = Ev d 53 1 [l0, some (.int x)] (.int x :: t) h Q := en_iload_n mm53 dX5_load_0 rfl
theorem i53_1 {d l0 l1 t h Q} : Ev d 53 1 [l0, l1] t h Q = Ev d 53 2 [l0, l1] (.int 0 :: t) h Q := en_iconst mm53 dX5_load_1 (by decide)
theorem i53_2 {d a l1 t h Q} : Ev d 53 2 [some (.ref a), l1] t h Q = Ev d 53 3 [some (.ref a), l1] (.ref a :: t) h Q := en_aload_n mm53 dX5_load_2 rfl
theorem i53_3 {d a l0 l1 t h Q} : Ev d 53 3 [l0, l1] (.ref a :: t) h Q = (hk h a = 6 ∧ Ev d 53 6 [l0, l1] (hF h a 0 :: t) h Q) := en_getfield (cj := 5) mm53 dX5_load_3 (by decide +kernel)
theorem i53_6 {d a l0 l1 t h Q} : Ev d 53 6 [l0, l1] (.ref a :: t) h Q = (hk h a = 5 ∧ Ev d 53 9 [l0, l1] (hF h a 1 :: t) h Q) := en_getfield (cj := 4) mm53 dX5_load_6 (by decide +kernel)
theorem i53_9 {d l0 l1 x0 x1 x2 h Q} : Ev (d + 1) 53 9 [l0, l1] [x0, x1, x2] h Q = EvM d 79 [x2, x1, x0] h (konN (d + 1) 53 12 [l0, l1] [] Q) := en_staticN mm53 dX5_load_9 (by decide +kernel : ml _ _ = some (0, 79)) (by decide) (rfl : mtab[79]? = some _) (by decide +kernel : npar _ = 3) (of_decide_eq_true rfl) (len_cat (of_decide_eq_true rfl)) rfl rfl rfl
theorem i53_12 {d a l1 t h Q} : Ev d 53 12 [some (.ref a), l1] t h Q = Ev d 53 13 [some (.ref a), l1] (.ref a :: t) h Q := en_aload_n mm53 dX5_load_12 rfl
theorem i53_13 {d a l0 l1 t h Q} : Ev d 53 13 [l0, l1] (.ref a :: t) h Q = (hk h a = 6 ∧ Ev d 53 16 [l0, l1] (hF h a 0 :: t) h Q) := en_getfield (cj := 5) mm53 dX5_load_13 (by decide +kernel)
theorem i53_16 {d l0 t x h Q} : Ev d 53 16 [l0, some (.int x)] t h Q = Ev d 53 17 [l0, some (.int x)] (.int x :: t) h Q := en_iload_n mm53 dX5_load_16 rfl
theorem i53_17 {d a l0 l1 x0 h Q} : Ev (d + 1) 53 17 [l0, l1] [x0, .ref a] h Q = (hk h a = 5 ∧ EvM d 33 [.ref a, x0] h (konN (d + 1) 53 20 [l0, l1] [] Q)) := en_virtualN mm53 dX5_load_17 (by decide +kernel : ml _ _ = some (3, 33)) (by decide) (rfl : mtab[33]? = some _) (by decide +kernel : npar _ = 1) rfl (by decide) rfl (of_decide_eq_true rfl) (len_cat (of_decide_eq_true rfl)) rfl rfl rfl
theorem i53_20 {d a l1 t h Q} : Ev d 53 20 [some (.ref a), l1] t h Q = Ev d 53 21 [some (.ref a), l1] (.ref a :: t) h Q := en_aload_n mm53 dX5_load_20 rfl
theorem i53_21 {d a l0 l1 t h Q} : Ev d 53 21 [l0, l1] (.ref a :: t) h Q = (hk h a = 6 ∧ Ev d 53 24 [l0, l1] (hF h a 0 :: t) h Q) := en_getfield (cj := 5) mm53 dX5_load_21 (by decide +kernel)
theorem i53_24 {d a l0 l1 h Q} : Ev (d + 1) 53 24 [l0, l1] [.ref a] h Q = (hk h a = 5 ∧ EvM d 35 [.ref a] h (konN (d + 1) 53 27 [l0, l1] [] Q)) := en_virtualN mm53 dX5_load_24 (by decide +kernel : ml _ _ = some (3, 35)) (by decide) (rfl : mtab[35]? = some _) (by decide +kernel : npar _ = 0) rfl (by decide) rfl (of_decide_eq_true rfl) (len_cat (of_decide_eq_true rfl)) rfl rfl rfl
theorem i53_27 {d l0 l1 t x h Q} : Ev d 53 27 [l0, l1] (.int x :: t) h Q = if x = 0 then Ev d 53 40 [l0, l1] t h Q else Ev d 53 30 [l0, l1] t h Q := en_if_eq mm53 dX5_load_27 rfl
theorem i53_30 {d a l1 t h Q} : Ev d 53 30 [some (.ref a), l1] t h Q = Ev d 53 31 [some (.ref a), l1] (.ref a :: t) h Q := en_aload_n mm53 dX5_load_30 rfl
theorem i53_31 {d a l0 l1 t h Q} : Ev d 53 31 [l0, l1] (.ref a :: t) h Q = (hk h a = 6 ∧ Ev d 53 34 [l0, l1] (hF h a 0 :: t) h Q) := en_getfield (cj := 5) mm53 dX5_load_31 (by decide +kernel)
theorem i53_34 {d a l0 l1 h Q} : Ev (d + 1) 53 34 [l0, l1] [.ref a] h Q = (hk h a = 5 ∧ EvM d 36 [.ref a] h (konN (d + 1) 53 37 [l0, l1] [] Q)) := en_virtualN mm53 dX5_load_34 (by decide +kernel : ml _ _ = some (3, 36)) (by decide) (rfl : mtab[36]? = some _) (by decide +kernel : npar _ = 0) rfl (by decide) rfl (of_decide_eq_true rfl) (len_cat (of_decide_eq_true rfl)) rfl rfl rfl
theorem i53_37 {d l0 l1 t x h Q} : Ev d 53 37 [l0, l1] (.int x :: t) h Q = if x = 0 then Ev d 53 40 [l0, l1] t h Q else Ev d 53 48 [l0, l1] t h Q := en_if_ne mm53 dX5_load_37 rfl
theorem i53_40 {d a l1 t h Q} : Ev d 53 40 [some (.ref a), l1] t h Q = Ev d 53 41 [some (.ref a), l1] (.ref a :: t) h Q := en_aload_n mm53 dX5_load_40 rfl
theorem i53_41 {d a l0 l1 t h Q} : Ev d 53 41 [l0, l1] (.ref a :: t) h Q = (hk h a = 6 ∧ Ev d 53 44 [l0, l1] (hF h a 0 :: t) h Q) := en_getfield (cj := 5) mm53 dX5_load_41 (by decide +kernel)
theorem i53_44 {d a l0 l1 t h Q} : Ev d 53 44 [l0, l1] (.ref a :: t) h Q = (hk h a = 5 ∧ Ev d 53 47 [l0, l1] (hF h a 7 :: t) h Q) := en_getfield (cj := 4) mm53 dX5_load_44 (by decide +kernel)
theorem i53_47 {d l0 l1 x h Q} : Ev d 53 47 [l0, l1] [.int x] h Q = Q (.inl (some (.int x))) h := en_ireturnI mm53 dX5_load_47 rfl
theorem i53_48 {d a l1 t h Q} : Ev d 53 48 [some (.ref a), l1] t h Q = Ev d 53 49 [some (.ref a), l1] (.ref a :: t) h Q := en_aload_n mm53 dX5_load_48 rfl
theorem i53_49 {d a l0 l1 t h Q} : Ev d 53 49 [l0, l1] (.ref a :: t) h Q = (hk h a = 6 ∧ Ev d 53 52 [l0, l1] (hF h a 3 :: t) h Q) := en_getfield (cj := 5) mm53 dX5_load_49 (by decide +kernel)
theorem i53_52 {d a l1 t h Q} : Ev d 53 52 [some (.ref a), l1] t h Q = Ev d 53 53 [some (.ref a), l1] (.ref a :: t) h Q := en_aload_n mm53 dX5_load_52 rfl
theorem i53_53 {d a l0 l1 t h Q} : Ev d 53 53 [l0, l1] (.ref a :: t) h Q = (hk h a = 6 ∧ Ev d 53 56 [l0, l1] (hF h a 1 :: t) h Q) := en_getfield (cj := 5) mm53 dX5_load_53 (by decide +kernel)
theorem i53_56 {d a l0 l1 x0 h Q} : Ev (d + 1) 53 56 [l0, l1] [x0, .ref a] h Q = (hk h a = 2 ∧ EvM d 4 [.ref a, x0] h (konN (d + 1) 53 59 [l0, l1] [] Q)) := en_virtualN mm53 dX5_load_56 (by decide +kernel : ml _ _ = some (3, 4)) (by decide) (rfl : mtab[4]? = some _) (by decide +kernel : npar _ = 1) rfl (by decide) rfl (of_decide_eq_true rfl) (len_cat (of_decide_eq_true rfl)) rfl rfl rfl
theorem i53_59 {d a l1 t h Q} : Ev d 53 59 [some (.ref a), l1] t h Q = Ev d 53 60 [some (.ref a), l1] (.ref a :: t) h Q := en_aload_n mm53 dX5_load_59 rfl
theorem i53_60 {d a l0 l1 t h Q} : Ev d 53 60 [l0, l1] (.ref a :: t) h Q = (hk h a = 6 ∧ Ev d 53 63 [l0, l1] (hF h a 1 :: t) h Q) := en_getfield (cj := 5) mm53 dX5_load_60 (by decide +kernel)
theorem i53_63 {d a l1 t h Q} : Ev d 53 63 [some (.ref a), l1] t h Q = Ev d 53 64 [some (.ref a), l1] (.ref a :: t) h Q := en_aload_n mm53 dX5_load_63 rfl
theorem i53_64 {d a l0 l1 t h Q} : Ev d 53 64 [l0, l1] (.ref a :: t) h Q = (hk h a = 6 ∧ Ev d 53 67 [l0, l1] (hF h a 0 :: t) h Q) := en_getfield (cj := 5) mm53 dX5_load_64 (by decide +kernel)
theorem i53_67 {d a l0 l1 t h Q} : Ev d 53 67 [l0, l1] (.ref a :: t) h Q = (hk h a = 5 ∧ Ev d 53 70 [l0, l1] (hF h a 9 :: t) h Q) := en_getfield (cj := 4) mm53 dX5_load_67 (by decide +kernel)
theorem i53_70 {d a l0 l1 x0 h Q} : Ev (d + 1) 53 70 [l0, l1] [x0, .ref a] h Q = (hk h a = 3 ∧ EvM d 9 [.ref a, x0] h (konN (d + 1) 53 73 [l0, l1] [] Q)) := en_virtualN mm53 dX5_load_70 (by decide +kernel : ml _ _ = some (3, 9)) (by decide) (rfl : mtab[9]? = some _) (by decide +kernel : npar _ = 1) rfl (by decide) rfl (of_decide_eq_true rfl) (len_cat (of_decide_eq_true rfl)) rfl rfl rfl
theorem i53_73 {d a l1 t h Q} : Ev d 53 73 [some (.ref a), l1] t h Q = Ev d 53 74 [some (.ref a), l1] (.ref a :: t) h Q := en_aload_n mm53 dX5_load_73 rfl
theorem i53_74 {d a l0 l1 t h Q} : Ev d 53 74 [l0, l1] (.ref a :: t) h Q = (hk h a = 6 ∧ Ev d 53 77 [l0, l1] (hF h a 1 :: t) h Q) := en_getfield (cj := 5) mm53 dX5_load_74 (by decide +kernel)
theorem i53_77 {d a l0 l1 t h Q} : Ev d 53 77 [l0, l1] (.ref a :: t) h Q = (hk h a = 3 ∧ Ev d 53 80 [l0, l1] (hF h a 0 :: t) h Q) := en_getfield (cj := 2) mm53 dX5_load_77 (by decide +kernel)
theorem i53_80 {d a l0 l1 t h Q} : Ev d 53 80 [l0, l1] (.ref a :: t) h Q = (hk h a = 4 ∧ Ev d 53 83 [l0, l1] (hF h a 0 :: t) h Q) := en_getfield (cj := 3) mm53 dX5_load_80 (by decide +kernel)
theorem i53_83 {d l0 l1 x h Q} : Ev d 53 83 [l0, l1] [.int x] h Q = Q (.inl (some (.int x))) h := en_ireturnI mm53 dX5_load_83 rfl
abbrev em54 : MI := (yX5_errorOffset, cX5_errorOffset, 1, some .int, 5, [])
theorem mm54 : mtab[54]? = some em54 := rfl
theorem in54 {d : Nat} {h : AH} {K : AO → AH → Prop} {v0 : Nat} : EvM d 54 [(.ref v0)] h K = Ev d 54 0 [some (.ref v0)] [] h K := evm_in mm54 (of_decide_eq_true rfl) rfl
theorem i54_0 {d a t h Q} : Ev d 54 0 [some (.ref a)] t h Q = Ev d 54 1 [some (.ref a)] (.ref a :: t) h Q := en_aload_n mm54 dX5_errorOffset_0 rfl
theorem i54_1 {d a l0 t h Q} : Ev d 54 1 [l0] (.ref a :: t) h Q = (hk h a = 6 ∧ Ev d 54 4 [l0] (hF h a 0 :: t) h Q) := en_getfield (cj := 5) mm54 dX5_errorOffset_1 (by decide +kernel)
theorem i54_4 {d a l0 t h Q} : Ev d 54 4 [l0] (.ref a :: t) h Q = (hk h a = 5 ∧ Ev d 54 7 [l0] (hF h a 8 :: t) h Q) := en_getfield (cj := 4) mm54 dX5_errorOffset_4 (by decide +kernel)
theorem i54_7 {d l0 x h Q} : Ev d 54 7 [l0] [.int x] h Q = Q (.inl (some (.int x))) h := en_ireturnI mm54 dX5_errorOffset_7 rfl
abbrev em55 : MI := (yX5_zoneCount, cX5_zoneCount, 1, some .int, 5, [])
theorem mm55 : mtab[55]? = some em55 := rfl
theorem in55 {d : Nat} {h : AH} {K : AO → AH → Prop} {v0 : Nat} : EvM d 55 [(.ref v0)] h K = Ev d 55 0 [some (.ref v0)] [] h K := evm_in mm55 (of_decide_eq_true rfl) rfl
theorem i55_0 {d a t h Q} : Ev d 55 0 [some (.ref a)] t h Q = Ev d 55 1 [some (.ref a)] (.ref a :: t) h Q := en_aload_n mm55 dX5_zoneCount_0 rfl
theorem i55_1 {d a l0 t h Q} : Ev d 55 1 [l0] (.ref a :: t) h Q = (hk h a = 6 ∧ Ev d 55 4 [l0] (hF h a 1 :: t) h Q) := en_getfield (cj := 5) mm55 dX5_zoneCount_1 (by decide +kernel)
theorem i55_4 {d a l0 t h Q} : Ev d 55 4 [l0] (.ref a :: t) h Q = (hk h a = 3 ∧ Ev d 55 7 [l0] (hF h a 0 :: t) h Q) := en_getfield (cj := 2) mm55 dX5_zoneCount_4 (by decide +kernel)
theorem i55_7 {d a l0 t h Q} : Ev d 55 7 [l0] (.ref a :: t) h Q = (hk h a = 4 ∧ Ev d 55 10 [l0] (hF h a 0 :: t) h Q) := en_getfield (cj := 3) mm55 dX5_zoneCount_7 (by decide +kernel)
theorem i55_10 {d l0 x h Q} : Ev d 55 10 [l0] [.int x] h Q = Q (.inl (some (.int x))) h := en_ireturnI mm55 dX5_zoneCount_10 rfl
abbrev em56 : MI := (yX5_sheetCount, cX5_sheetCount, 1, some .int, 5, [])
theorem mm56 : mtab[56]? = some em56 := rfl
theorem in56 {d : Nat} {h : AH} {K : AO → AH → Prop} {v0 : Nat} : EvM d 56 [(.ref v0)] h K = Ev d 56 0 [some (.ref v0)] [] h K := evm_in mm56 (of_decide_eq_true rfl) rfl
theorem i56_0 {d a t h Q} : Ev d 56 0 [some (.ref a)] t h Q = Ev d 56 1 [some (.ref a)] (.ref a :: t) h Q := en_aload_n mm56 dX5_sheetCount_0 rfl
theorem i56_1 {d a l0 t h Q} : Ev d 56 1 [l0] (.ref a :: t) h Q = (hk h a = 6 ∧ Ev d 56 4 [l0] (hF h a 1 :: t) h Q) := en_getfield (cj := 5) mm56 dX5_sheetCount_1 (by decide +kernel)
theorem i56_4 {d a l0 t h Q} : Ev d 56 4 [l0] (.ref a :: t) h Q = (hk h a = 3 ∧ Ev d 56 7 [l0] (hF h a 2 :: t) h Q) := en_getfield (cj := 2) mm56 dX5_sheetCount_4 (by decide +kernel)
theorem i56_7 {d l0 x h Q} : Ev d 56 7 [l0] [.int x] h Q = Q (.inl (some (.int x))) h := en_ireturnI mm56 dX5_sheetCount_7 rfl
abbrev em57 : MI := (yX5_clock, cX5_clock, 1, some .int, 5, [])
theorem mm57 : mtab[57]? = some em57 := rfl
theorem in57 {d : Nat} {h : AH} {K : AO → AH → Prop} {v0 : Nat} : EvM d 57 [(.ref v0)] h K = Ev d 57 0 [some (.ref v0)] [] h K := evm_in mm57 (of_decide_eq_true rfl) rfl
theorem i57_0 {d a t h Q} : Ev d 57 0 [some (.ref a)] t h Q = Ev d 57 1 [some (.ref a)] (.ref a :: t) h Q := en_aload_n mm57 dX5_clock_0 rfl
theorem i57_1 {d a l0 t h Q} : Ev d 57 1 [l0] (.ref a :: t) h Q = (hk h a = 6 ∧ Ev d 57 4 [l0] (hF h a 1 :: t) h Q) := en_getfield (cj := 5) mm57 dX5_clock_1 (by decide +kernel)
theorem i57_4 {d a l0 t h Q} : Ev d 57 4 [l0] (.ref a :: t) h Q = (hk h a = 3 ∧ Ev d 57 7 [l0] (hF h a 1 :: t) h Q) := en_getfield (cj := 2) mm57 dX5_clock_4 (by decide +kernel)
theorem i57_7 {d l0 x h Q} : Ev d 57 7 [l0] [.int x] h Q = Q (.inl (some (.int x))) h := en_ireturnI mm57 dX5_clock_7 rfl
abbrev em58 : MI := (yX5_zone, cX5_zone, 3, some .int, 5, [])
theorem mm58 : mtab[58]? = some em58 := rfl
theorem in58 {d : Nat} {h : AH} {K : AO → AH → Prop} {v0 : Nat} {v1 : Int32} {v2 : Int32} : EvM d 58 [(.ref v0), (.int v1), (.int v2)] h K = Ev d 58 0 [some (.ref v0), some (.int v1), some (.int v2)] [] h K := evm_in mm58 (of_decide_eq_true rfl) rfl
theorem i58_0 {d l0 l2 t x h Q} : Ev d 58 0 [l0, some (.int x), l2] t h Q = Ev d 58 1 [l0, some (.int x), l2] (.int x :: t) h Q := en_iload_n mm58 dX5_zone_0 rfl
theorem i58_1 {d a l1 l2 t h Q} : Ev d 58 1 [some (.ref a), l1, l2] t h Q = Ev d 58 2 [some (.ref a), l1, l2] (.ref a :: t) h Q := en_aload_n mm58 dX5_zone_1 rfl
theorem i58_2 {d a l0 l1 l2 t h Q} : Ev d 58 2 [l0, l1, l2] (.ref a :: t) h Q = (hk h a = 6 ∧ Ev d 58 5 [l0, l1, l2] (hF h a 1 :: t) h Q) := en_getfield (cj := 5) mm58 dX5_zone_2 (by decide +kernel)
theorem i58_5 {d a l0 l1 l2 t h Q} : Ev d 58 5 [l0, l1, l2] (.ref a :: t) h Q = (hk h a = 3 ∧ Ev d 58 8 [l0, l1, l2] (hF h a 0 :: t) h Q) := en_getfield (cj := 2) mm58 dX5_zone_5 (by decide +kernel)
theorem i58_8 {d a l0 l1 l2 t h Q} : Ev d 58 8 [l0, l1, l2] (.ref a :: t) h Q = (hk h a = 4 ∧ Ev d 58 11 [l0, l1, l2] (hF h a 0 :: t) h Q) := en_getfield (cj := 3) mm58 dX5_zone_8 (by decide +kernel)
theorem i58_11 {d l0 l1 l2 x0 x1 h Q} : Ev (d + 1) 58 11 [l0, l1, l2] [x0, x1] h Q = EvM d 80 [x1, x0] h (konN (d + 1) 58 14 [l0, l1, l2] [] Q) := en_staticN mm58 dX5_zone_11 (by decide +kernel : ml _ _ = some (0, 80)) (by decide) (rfl : mtab[80]? = some _) (by decide +kernel : npar _ = 2) (of_decide_eq_true rfl) (len_cat (of_decide_eq_true rfl)) rfl rfl rfl
theorem i58_14 {d l0 l1 t x h Q} : Ev d 58 14 [l0, l1, some (.int x)] t h Q = Ev d 58 15 [l0, l1, some (.int x)] (.int x :: t) h Q := en_iload_n mm58 dX5_zone_14 rfl
theorem i58_15_0 {d l0 l1 l2 t h Q} : Ev d 58 15 [l0, l1, l2] (.int 0 :: t) h Q = Ev d 58 56 [l0, l1, l2] t h Q := en_tsw mm58 dX5_zone_15 rfl
theorem i58_15_1 {d l0 l1 l2 t h Q} : Ev d 58 15 [l0, l1, l2] (.int 1 :: t) h Q = Ev d 58 66 [l0, l1, l2] t h Q := en_tsw mm58 dX5_zone_15 rfl
theorem i58_15_2 {d l0 l1 l2 t h Q} : Ev d 58 15 [l0, l1, l2] (.int 2 :: t) h Q = Ev d 58 79 [l0, l1, l2] t h Q := en_tsw mm58 dX5_zone_15 rfl
theorem i58_15_3 {d l0 l1 l2 t h Q} : Ev d 58 15 [l0, l1, l2] (.int 3 :: t) h Q = Ev d 58 92 [l0, l1, l2] t h Q := en_tsw mm58 dX5_zone_15 rfl
theorem i58_15_4 {d l0 l1 l2 t h Q} : Ev d 58 15 [l0, l1, l2] (.int 4 :: t) h Q = Ev d 58 105 [l0, l1, l2] t h Q := en_tsw mm58 dX5_zone_15 rfl
theorem i58_15_5 {d l0 l1 l2 t h Q} : Ev d 58 15 [l0, l1, l2] (.int 5 :: t) h Q = Ev d 58 118 [l0, l1, l2] t h Q := en_tsw mm58 dX5_zone_15 rfl
theorem i58_15_6 {d l0 l1 l2 t h Q} : Ev d 58 15 [l0, l1, l2] (.int 6 :: t) h Q = Ev d 58 128 [l0, l1, l2] t h Q := en_tsw mm58 dX5_zone_15 rfl
theorem i58_15_d {d l0 l1 l2 t h Q} {x : Int32} (hx : x.toInt < 0 ∨ 6 < x.toInt) : Ev d 58 15 [l0, l1, l2] (.int x :: t) h Q = Ev d 58 138 [l0, l1, l2] t h Q := en_tsw mm58 dX5_zone_15 (if_pos hx)
theorem i58_56 {d a l1 l2 t h Q} : Ev d 58 56 [some (.ref a), l1, l2] t h Q = Ev d 58 57 [some (.ref a), l1, l2] (.ref a :: t) h Q := en_aload_n mm58 dX5_zone_56 rfl
theorem i58_57 {d a l0 l1 l2 t h Q} : Ev d 58 57 [l0, l1, l2] (.ref a :: t) h Q = (hk h a = 6 ∧ Ev d 58 60 [l0, l1, l2] (hF h a 1 :: t) h Q) := en_getfield (cj := 5) mm58 dX5_zone_57 (by decide +kernel)
theorem i58_60 {d a l0 l1 l2 t h Q} : Ev d 58 60 [l0, l1, l2] (.ref a :: t) h Q = (hk h a = 3 ∧ Ev d 58 63 [l0, l1, l2] (hF h a 5 :: t) h Q) := en_getfield (cj := 2) mm58 dX5_zone_60 (by decide +kernel)
theorem i58_63 {d l0 l2 t x h Q} : Ev d 58 63 [l0, some (.int x), l2] t h Q = Ev d 58 64 [l0, some (.int x), l2] (.int x :: t) h Q := en_iload_n mm58 dX5_zone_63 rfl
theorem i58_64 {d a j l0 l1 l2 t h Q} : Ev d 58 64 [l0, l1, l2] (.int j :: .ref a :: t) h Q = (hk h a = 10 ∧ inb j (hl h a) ∧ Ev d 58 65 [l0, l1, l2] (.int (hA h a j.toNatClampNeg) :: t) h Q) := en_iaload mm58 dX5_zone_64
theorem i58_65 {d l0 l1 l2 x h Q} : Ev d 58 65 [l0, l1, l2] [.int x] h Q = Q (.inl (some (.int x))) h := en_ireturnI mm58 dX5_zone_65 rfl
theorem i58_66 {d a l1 l2 t h Q} : Ev d 58 66 [some (.ref a), l1, l2] t h Q = Ev d 58 67 [some (.ref a), l1, l2] (.ref a :: t) h Q := en_aload_n mm58 dX5_zone_66 rfl
theorem i58_67 {d a l0 l1 l2 t h Q} : Ev d 58 67 [l0, l1, l2] (.ref a :: t) h Q = (hk h a = 6 ∧ Ev d 58 70 [l0, l1, l2] (hF h a 1 :: t) h Q) := en_getfield (cj := 5) mm58 dX5_zone_67 (by decide +kernel)
theorem i58_70 {d a l0 l1 l2 t h Q} : Ev d 58 70 [l0, l1, l2] (.ref a :: t) h Q = (hk h a = 3 ∧ Ev d 58 73 [l0, l1, l2] (hF h a 0 :: t) h Q) := en_getfield (cj := 2) mm58 dX5_zone_70 (by decide +kernel)
theorem i58_73 {d a l0 l1 l2 t h Q} : Ev d 58 73 [l0, l1, l2] (.ref a :: t) h Q = (hk h a = 4 ∧ Ev d 58 76 [l0, l1, l2] (hF h a 4 :: t) h Q) := en_getfield (cj := 3) mm58 dX5_zone_73 (by decide +kernel)
theorem i58_76 {d l0 l2 t x h Q} : Ev d 58 76 [l0, some (.int x), l2] t h Q = Ev d 58 77 [l0, some (.int x), l2] (.int x :: t) h Q := en_iload_n mm58 dX5_zone_76 rfl
theorem i58_77 {d a j l0 l1 l2 t h Q} : Ev d 58 77 [l0, l1, l2] (.int j :: .ref a :: t) h Q = (hk h a = 10 ∧ inb j (hl h a) ∧ Ev d 58 78 [l0, l1, l2] (.int (hA h a j.toNatClampNeg) :: t) h Q) := en_iaload mm58 dX5_zone_77
theorem i58_78 {d l0 l1 l2 x h Q} : Ev d 58 78 [l0, l1, l2] [.int x] h Q = Q (.inl (some (.int x))) h := en_ireturnI mm58 dX5_zone_78 rfl
theorem i58_79 {d a l1 l2 t h Q} : Ev d 58 79 [some (.ref a), l1, l2] t h Q = Ev d 58 80 [some (.ref a), l1, l2] (.ref a :: t) h Q := en_aload_n mm58 dX5_zone_79 rfl
theorem i58_80 {d a l0 l1 l2 t h Q} : Ev d 58 80 [l0, l1, l2] (.ref a :: t) h Q = (hk h a = 6 ∧ Ev d 58 83 [l0, l1, l2] (hF h a 1 :: t) h Q) := en_getfield (cj := 5) mm58 dX5_zone_80 (by decide +kernel)
theorem i58_83 {d a l0 l1 l2 t h Q} : Ev d 58 83 [l0, l1, l2] (.ref a :: t) h Q = (hk h a = 3 ∧ Ev d 58 86 [l0, l1, l2] (hF h a 0 :: t) h Q) := en_getfield (cj := 2) mm58 dX5_zone_83 (by decide +kernel)
theorem i58_86 {d a l0 l1 l2 t h Q} : Ev d 58 86 [l0, l1, l2] (.ref a :: t) h Q = (hk h a = 4 ∧ Ev d 58 89 [l0, l1, l2] (hF h a 5 :: t) h Q) := en_getfield (cj := 3) mm58 dX5_zone_86 (by decide +kernel)
theorem i58_89 {d l0 l2 t x h Q} : Ev d 58 89 [l0, some (.int x), l2] t h Q = Ev d 58 90 [l0, some (.int x), l2] (.int x :: t) h Q := en_iload_n mm58 dX5_zone_89 rfl
theorem i58_90 {d a j l0 l1 l2 t h Q} : Ev d 58 90 [l0, l1, l2] (.int j :: .ref a :: t) h Q = (hk h a = 10 ∧ inb j (hl h a) ∧ Ev d 58 91 [l0, l1, l2] (.int (hA h a j.toNatClampNeg) :: t) h Q) := en_iaload mm58 dX5_zone_90
theorem i58_91 {d l0 l1 l2 x h Q} : Ev d 58 91 [l0, l1, l2] [.int x] h Q = Q (.inl (some (.int x))) h := en_ireturnI mm58 dX5_zone_91 rfl
theorem i58_92 {d a l1 l2 t h Q} : Ev d 58 92 [some (.ref a), l1, l2] t h Q = Ev d 58 93 [some (.ref a), l1, l2] (.ref a :: t) h Q := en_aload_n mm58 dX5_zone_92 rfl
theorem i58_93 {d a l0 l1 l2 t h Q} : Ev d 58 93 [l0, l1, l2] (.ref a :: t) h Q = (hk h a = 6 ∧ Ev d 58 96 [l0, l1, l2] (hF h a 1 :: t) h Q) := en_getfield (cj := 5) mm58 dX5_zone_93 (by decide +kernel)
theorem i58_96 {d a l0 l1 l2 t h Q} : Ev d 58 96 [l0, l1, l2] (.ref a :: t) h Q = (hk h a = 3 ∧ Ev d 58 99 [l0, l1, l2] (hF h a 0 :: t) h Q) := en_getfield (cj := 2) mm58 dX5_zone_96 (by decide +kernel)
theorem i58_99 {d a l0 l1 l2 t h Q} : Ev d 58 99 [l0, l1, l2] (.ref a :: t) h Q = (hk h a = 4 ∧ Ev d 58 102 [l0, l1, l2] (hF h a 6 :: t) h Q) := en_getfield (cj := 3) mm58 dX5_zone_99 (by decide +kernel)
theorem i58_102 {d l0 l2 t x h Q} : Ev d 58 102 [l0, some (.int x), l2] t h Q = Ev d 58 103 [l0, some (.int x), l2] (.int x :: t) h Q := en_iload_n mm58 dX5_zone_102 rfl
theorem i58_103 {d a j l0 l1 l2 t h Q} : Ev d 58 103 [l0, l1, l2] (.int j :: .ref a :: t) h Q = (hk h a = 10 ∧ inb j (hl h a) ∧ Ev d 58 104 [l0, l1, l2] (.int (hA h a j.toNatClampNeg) :: t) h Q) := en_iaload mm58 dX5_zone_103
theorem i58_104 {d l0 l1 l2 x h Q} : Ev d 58 104 [l0, l1, l2] [.int x] h Q = Q (.inl (some (.int x))) h := en_ireturnI mm58 dX5_zone_104 rfl
theorem i58_105 {d a l1 l2 t h Q} : Ev d 58 105 [some (.ref a), l1, l2] t h Q = Ev d 58 106 [some (.ref a), l1, l2] (.ref a :: t) h Q := en_aload_n mm58 dX5_zone_105 rfl
theorem i58_106 {d a l0 l1 l2 t h Q} : Ev d 58 106 [l0, l1, l2] (.ref a :: t) h Q = (hk h a = 6 ∧ Ev d 58 109 [l0, l1, l2] (hF h a 1 :: t) h Q) := en_getfield (cj := 5) mm58 dX5_zone_106 (by decide +kernel)
theorem i58_109 {d a l0 l1 l2 t h Q} : Ev d 58 109 [l0, l1, l2] (.ref a :: t) h Q = (hk h a = 3 ∧ Ev d 58 112 [l0, l1, l2] (hF h a 0 :: t) h Q) := en_getfield (cj := 2) mm58 dX5_zone_109 (by decide +kernel)
theorem i58_112 {d a l0 l1 l2 t h Q} : Ev d 58 112 [l0, l1, l2] (.ref a :: t) h Q = (hk h a = 4 ∧ Ev d 58 115 [l0, l1, l2] (hF h a 7 :: t) h Q) := en_getfield (cj := 3) mm58 dX5_zone_112 (by decide +kernel)
theorem i58_115 {d l0 l2 t x h Q} : Ev d 58 115 [l0, some (.int x), l2] t h Q = Ev d 58 116 [l0, some (.int x), l2] (.int x :: t) h Q := en_iload_n mm58 dX5_zone_115 rfl
theorem i58_116 {d a j l0 l1 l2 t h Q} : Ev d 58 116 [l0, l1, l2] (.int j :: .ref a :: t) h Q = (hk h a = 10 ∧ inb j (hl h a) ∧ Ev d 58 117 [l0, l1, l2] (.int (hA h a j.toNatClampNeg) :: t) h Q) := en_iaload mm58 dX5_zone_116
theorem i58_117 {d l0 l1 l2 x h Q} : Ev d 58 117 [l0, l1, l2] [.int x] h Q = Q (.inl (some (.int x))) h := en_ireturnI mm58 dX5_zone_117 rfl
theorem i58_118 {d a l1 l2 t h Q} : Ev d 58 118 [some (.ref a), l1, l2] t h Q = Ev d 58 119 [some (.ref a), l1, l2] (.ref a :: t) h Q := en_aload_n mm58 dX5_zone_118 rfl
theorem i58_119 {d a l0 l1 l2 t h Q} : Ev d 58 119 [l0, l1, l2] (.ref a :: t) h Q = (hk h a = 6 ∧ Ev d 58 122 [l0, l1, l2] (hF h a 1 :: t) h Q) := en_getfield (cj := 5) mm58 dX5_zone_119 (by decide +kernel)
theorem i58_122 {d a l0 l1 l2 t h Q} : Ev d 58 122 [l0, l1, l2] (.ref a :: t) h Q = (hk h a = 3 ∧ Ev d 58 125 [l0, l1, l2] (hF h a 6 :: t) h Q) := en_getfield (cj := 2) mm58 dX5_zone_122 (by decide +kernel)
theorem i58_125 {d l0 l2 t x h Q} : Ev d 58 125 [l0, some (.int x), l2] t h Q = Ev d 58 126 [l0, some (.int x), l2] (.int x :: t) h Q := en_iload_n mm58 dX5_zone_125 rfl
theorem i58_126 {d a j l0 l1 l2 t h Q} : Ev d 58 126 [l0, l1, l2] (.int j :: .ref a :: t) h Q = (hk h a = 10 ∧ inb j (hl h a) ∧ Ev d 58 127 [l0, l1, l2] (.int (hA h a j.toNatClampNeg) :: t) h Q) := en_iaload mm58 dX5_zone_126
theorem i58_127 {d l0 l1 l2 x h Q} : Ev d 58 127 [l0, l1, l2] [.int x] h Q = Q (.inl (some (.int x))) h := en_ireturnI mm58 dX5_zone_127 rfl
theorem i58_128 {d a l1 l2 t h Q} : Ev d 58 128 [some (.ref a), l1, l2] t h Q = Ev d 58 129 [some (.ref a), l1, l2] (.ref a :: t) h Q := en_aload_n mm58 dX5_zone_128 rfl
theorem i58_129 {d a l0 l1 l2 t h Q} : Ev d 58 129 [l0, l1, l2] (.ref a :: t) h Q = (hk h a = 6 ∧ Ev d 58 132 [l0, l1, l2] (hF h a 1 :: t) h Q) := en_getfield (cj := 5) mm58 dX5_zone_129 (by decide +kernel)
theorem i58_132 {d a l0 l1 l2 t h Q} : Ev d 58 132 [l0, l1, l2] (.ref a :: t) h Q = (hk h a = 3 ∧ Ev d 58 135 [l0, l1, l2] (hF h a 7 :: t) h Q) := en_getfield (cj := 2) mm58 dX5_zone_132 (by decide +kernel)
theorem i58_135 {d l0 l2 t x h Q} : Ev d 58 135 [l0, some (.int x), l2] t h Q = Ev d 58 136 [l0, some (.int x), l2] (.int x :: t) h Q := en_iload_n mm58 dX5_zone_135 rfl
theorem i58_136 {d a j l0 l1 l2 t h Q} : Ev d 58 136 [l0, l1, l2] (.int j :: .ref a :: t) h Q = (hk h a = 10 ∧ inb j (hl h a) ∧ Ev d 58 137 [l0, l1, l2] (.int (hA h a j.toNatClampNeg) :: t) h Q) := en_iaload mm58 dX5_zone_136
theorem i58_137 {d l0 l1 l2 x h Q} : Ev d 58 137 [l0, l1, l2] [.int x] h Q = Q (.inl (some (.int x))) h := en_ireturnI mm58 dX5_zone_137 rfl
theorem i58_138 {d l0 l1 l2 h Q} : Ev (d + 10) 58 138 [l0, l1, l2] [] h Q = Q (.inr 0) (alH h) := en_throw mm58 dX5_zone_138 (by decide +kernel) (athr_of (by decide +kernel : look _ exT = some (615, 0)) dX5_zone_141 dX5_zone_142 dX5_zone_144 dX5_zone_147 (by decide +kernel) (by decide +kernel) rfl)
theorem i58_141 {d a l0 l1 l2 t h Q} : Ev d 58 141 [l0, l1, l2] (.ref a :: t) h Q = Ev d 58 142 [l0, l1, l2] (.ref a :: .ref a :: t) h Q := en_dup mm58 dX5_zone_141
theorem i58_142 {d l0 l1 l2 t h Q} : Ev d 58 142 [l0, l1, l2] t h Q = Ev d 58 144 [l0, l1, l2] (litV 19 :: t) h Q := en_ldcS mm58 dX5_zone_142 (by decide +kernel) (by decide +kernel)
abbrev em59 : MI := (yX5_thickness, cX5_thickness, 2, some .int, 5, [])
theorem mm59 : mtab[59]? = some em59 := rfl
theorem in59 {d : Nat} {h : AH} {K : AO → AH → Prop} {v0 : Nat} {v1 : Int32} : EvM d 59 [(.ref v0), (.int v1)] h K = Ev d 59 0 [some (.ref v0), some (.int v1)] [] h K := evm_in mm59 (of_decide_eq_true rfl) rfl
theorem i59_0 {d l0 t x h Q} : Ev d 59 0 [l0, some (.int x)] t h Q = Ev d 59 1 [l0, some (.int x)] (.int x :: t) h Q := en_iload_n mm59 dX5_thickness_0 rfl
theorem i59_1 {d a l1 t h Q} : Ev d 59 1 [some (.ref a), l1] t h Q = Ev d 59 2 [some (.ref a), l1] (.ref a :: t) h Q := en_aload_n mm59 dX5_thickness_1 rfl
theorem i59_2 {d a l0 l1 t h Q} : Ev d 59 2 [l0, l1] (.ref a :: t) h Q = (hk h a = 6 ∧ Ev d 59 5 [l0, l1] (hF h a 1 :: t) h Q) := en_getfield (cj := 5) mm59 dX5_thickness_2 (by decide +kernel)
theorem i59_5 {d a l0 l1 t h Q} : Ev d 59 5 [l0, l1] (.ref a :: t) h Q = (hk h a = 3 ∧ Ev d 59 8 [l0, l1] (hF h a 2 :: t) h Q) := en_getfield (cj := 2) mm59 dX5_thickness_5 (by decide +kernel)
theorem i59_8 {d l0 l1 x0 x1 h Q} : Ev (d + 1) 59 8 [l0, l1] [x0, x1] h Q = EvM d 80 [x1, x0] h (konN (d + 1) 59 11 [l0, l1] [] Q) := en_staticN mm59 dX5_thickness_8 (by decide +kernel : ml _ _ = some (0, 80)) (by decide) (rfl : mtab[80]? = some _) (by decide +kernel : npar _ = 2) (of_decide_eq_true rfl) (len_cat (of_decide_eq_true rfl)) rfl rfl rfl
theorem i59_11 {d a l1 t h Q} : Ev d 59 11 [some (.ref a), l1] t h Q = Ev d 59 12 [some (.ref a), l1] (.ref a :: t) h Q := en_aload_n mm59 dX5_thickness_11 rfl
theorem i59_12 {d a l0 l1 t h Q} : Ev d 59 12 [l0, l1] (.ref a :: t) h Q = (hk h a = 6 ∧ Ev d 59 15 [l0, l1] (hF h a 1 :: t) h Q) := en_getfield (cj := 5) mm59 dX5_thickness_12 (by decide +kernel)
theorem i59_15 {d a l0 l1 t h Q} : Ev d 59 15 [l0, l1] (.ref a :: t) h Q = (hk h a = 3 ∧ Ev d 59 18 [l0, l1] (hF h a 8 :: t) h Q) := en_getfield (cj := 2) mm59 dX5_thickness_15 (by decide +kernel)
theorem i59_18 {d l0 t x h Q} : Ev d 59 18 [l0, some (.int x)] t h Q = Ev d 59 19 [l0, some (.int x)] (.int x :: t) h Q := en_iload_n mm59 dX5_thickness_18 rfl
theorem i59_19 {d a j l0 l1 t h Q} : Ev d 59 19 [l0, l1] (.int j :: .ref a :: t) h Q = (hk h a = 10 ∧ inb j (hl h a) ∧ Ev d 59 20 [l0, l1] (.int (hA h a j.toNatClampNeg) :: t) h Q) := en_iaload mm59 dX5_thickness_19
theorem i59_20 {d l0 l1 x h Q} : Ev d 59 20 [l0, l1] [.int x] h Q = Q (.inl (some (.int x))) h := en_ireturnI mm59 dX5_thickness_20 rfl
abbrev em60 : MI := (yX5_temperature, cX5_temperature, 2, some .int, 5, [])
theorem mm60 : mtab[60]? = some em60 := rfl
theorem in60 {d : Nat} {h : AH} {K : AO → AH → Prop} {v0 : Nat} {v1 : Int32} : EvM d 60 [(.ref v0), (.int v1)] h K = Ev d 60 0 [some (.ref v0), some (.int v1)] [] h K := evm_in mm60 (of_decide_eq_true rfl) rfl
theorem i60_0 {d l0 t x h Q} : Ev d 60 0 [l0, some (.int x)] t h Q = Ev d 60 1 [l0, some (.int x)] (.int x :: t) h Q := en_iload_n mm60 dX5_temperature_0 rfl
theorem i60_1 {d a l1 t h Q} : Ev d 60 1 [some (.ref a), l1] t h Q = Ev d 60 2 [some (.ref a), l1] (.ref a :: t) h Q := en_aload_n mm60 dX5_temperature_1 rfl
theorem i60_2 {d a l0 l1 t h Q} : Ev d 60 2 [l0, l1] (.ref a :: t) h Q = (hk h a = 6 ∧ Ev d 60 5 [l0, l1] (hF h a 1 :: t) h Q) := en_getfield (cj := 5) mm60 dX5_temperature_2 (by decide +kernel)
theorem i60_5 {d a l0 l1 t h Q} : Ev d 60 5 [l0, l1] (.ref a :: t) h Q = (hk h a = 3 ∧ Ev d 60 8 [l0, l1] (hF h a 2 :: t) h Q) := en_getfield (cj := 2) mm60 dX5_temperature_5 (by decide +kernel)
theorem i60_8 {d l0 l1 x0 x1 h Q} : Ev (d + 1) 60 8 [l0, l1] [x0, x1] h Q = EvM d 80 [x1, x0] h (konN (d + 1) 60 11 [l0, l1] [] Q) := en_staticN mm60 dX5_temperature_8 (by decide +kernel : ml _ _ = some (0, 80)) (by decide) (rfl : mtab[80]? = some _) (by decide +kernel : npar _ = 2) (of_decide_eq_true rfl) (len_cat (of_decide_eq_true rfl)) rfl rfl rfl
theorem i60_11 {d a l1 t h Q} : Ev d 60 11 [some (.ref a), l1] t h Q = Ev d 60 12 [some (.ref a), l1] (.ref a :: t) h Q := en_aload_n mm60 dX5_temperature_11 rfl
theorem i60_12 {d a l0 l1 t h Q} : Ev d 60 12 [l0, l1] (.ref a :: t) h Q = (hk h a = 6 ∧ Ev d 60 15 [l0, l1] (hF h a 1 :: t) h Q) := en_getfield (cj := 5) mm60 dX5_temperature_12 (by decide +kernel)
theorem i60_15 {d a l0 l1 t h Q} : Ev d 60 15 [l0, l1] (.ref a :: t) h Q = (hk h a = 3 ∧ Ev d 60 18 [l0, l1] (hF h a 9 :: t) h Q) := en_getfield (cj := 2) mm60 dX5_temperature_15 (by decide +kernel)
theorem i60_18 {d l0 t x h Q} : Ev d 60 18 [l0, some (.int x)] t h Q = Ev d 60 19 [l0, some (.int x)] (.int x :: t) h Q := en_iload_n mm60 dX5_temperature_18 rfl
theorem i60_19 {d a j l0 l1 t h Q} : Ev d 60 19 [l0, l1] (.int j :: .ref a :: t) h Q = (hk h a = 10 ∧ inb j (hl h a) ∧ Ev d 60 20 [l0, l1] (.int (hA h a j.toNatClampNeg) :: t) h Q) := en_iaload mm60 dX5_temperature_19
theorem i60_20 {d l0 l1 x h Q} : Ev d 60 20 [l0, l1] [.int x] h Q = Q (.inl (some (.int x))) h := en_ireturnI mm60 dX5_temperature_20 rfl
abbrev em61 : MI := (yX5_state, cX5_state, 2, some .int, 5, [])
theorem mm61 : mtab[61]? = some em61 := rfl
theorem in61 {d : Nat} {h : AH} {K : AO → AH → Prop} {v0 : Nat} {v1 : Int32} : EvM d 61 [(.ref v0), (.int v1)] h K = Ev d 61 0 [some (.ref v0), some (.int v1)] [] h K := evm_in mm61 (of_decide_eq_true rfl) rfl
theorem i61_0 {d l0 t x h Q} : Ev d 61 0 [l0, some (.int x)] t h Q = Ev d 61 1 [l0, some (.int x)] (.int x :: t) h Q := en_iload_n mm61 dX5_state_0 rfl
theorem i61_1 {d a l1 t h Q} : Ev d 61 1 [some (.ref a), l1] t h Q = Ev d 61 2 [some (.ref a), l1] (.ref a :: t) h Q := en_aload_n mm61 dX5_state_1 rfl
theorem i61_2 {d a l0 l1 t h Q} : Ev d 61 2 [l0, l1] (.ref a :: t) h Q = (hk h a = 6 ∧ Ev d 61 5 [l0, l1] (hF h a 1 :: t) h Q) := en_getfield (cj := 5) mm61 dX5_state_2 (by decide +kernel)
theorem i61_5 {d a l0 l1 t h Q} : Ev d 61 5 [l0, l1] (.ref a :: t) h Q = (hk h a = 3 ∧ Ev d 61 8 [l0, l1] (hF h a 2 :: t) h Q) := en_getfield (cj := 2) mm61 dX5_state_5 (by decide +kernel)
theorem i61_8 {d l0 l1 x0 x1 h Q} : Ev (d + 1) 61 8 [l0, l1] [x0, x1] h Q = EvM d 80 [x1, x0] h (konN (d + 1) 61 11 [l0, l1] [] Q) := en_staticN mm61 dX5_state_8 (by decide +kernel : ml _ _ = some (0, 80)) (by decide) (rfl : mtab[80]? = some _) (by decide +kernel : npar _ = 2) (of_decide_eq_true rfl) (len_cat (of_decide_eq_true rfl)) rfl rfl rfl
theorem i61_11 {d a l1 t h Q} : Ev d 61 11 [some (.ref a), l1] t h Q = Ev d 61 12 [some (.ref a), l1] (.ref a :: t) h Q := en_aload_n mm61 dX5_state_11 rfl
theorem i61_12 {d a l0 l1 t h Q} : Ev d 61 12 [l0, l1] (.ref a :: t) h Q = (hk h a = 6 ∧ Ev d 61 15 [l0, l1] (hF h a 1 :: t) h Q) := en_getfield (cj := 5) mm61 dX5_state_12 (by decide +kernel)
theorem i61_15 {d a l0 l1 t h Q} : Ev d 61 15 [l0, l1] (.ref a :: t) h Q = (hk h a = 3 ∧ Ev d 61 18 [l0, l1] (hF h a 10 :: t) h Q) := en_getfield (cj := 2) mm61 dX5_state_15 (by decide +kernel)
theorem i61_18 {d l0 t x h Q} : Ev d 61 18 [l0, some (.int x)] t h Q = Ev d 61 19 [l0, some (.int x)] (.int x :: t) h Q := en_iload_n mm61 dX5_state_18 rfl
theorem i61_19 {d a j l0 l1 t h Q} : Ev d 61 19 [l0, l1] (.int j :: .ref a :: t) h Q = (hk h a = 10 ∧ inb j (hl h a) ∧ Ev d 61 20 [l0, l1] (.int (hA h a j.toNatClampNeg) :: t) h Q) := en_iaload mm61 dX5_state_19
theorem i61_20 {d l0 l1 x h Q} : Ev d 61 20 [l0, l1] [.int x] h Q = Q (.inl (some (.int x))) h := en_ireturnI mm61 dX5_state_20 rfl
abbrev em62 : MI := (yX5_quenched, cX5_quenched, 1, some .int, 5, [])
theorem mm62 : mtab[62]? = some em62 := rfl
theorem in62 {d : Nat} {h : AH} {K : AO → AH → Prop} {v0 : Nat} : EvM d 62 [(.ref v0)] h K = Ev d 62 0 [some (.ref v0)] [] h K := evm_in mm62 (of_decide_eq_true rfl) rfl
theorem i62_0 {d a t h Q} : Ev d 62 0 [some (.ref a)] t h Q = Ev d 62 1 [some (.ref a)] (.ref a :: t) h Q := en_aload_n mm62 dX5_quenched_0 rfl
theorem i62_1 {d a l0 t h Q} : Ev d 62 1 [l0] (.ref a :: t) h Q = (hk h a = 6 ∧ Ev d 62 4 [l0] (hF h a 1 :: t) h Q) := en_getfield (cj := 5) mm62 dX5_quenched_1 (by decide +kernel)
theorem i62_4 {d a l0 t h Q} : Ev d 62 4 [l0] (.ref a :: t) h Q = (hk h a = 3 ∧ Ev d 62 7 [l0] (hF h a 3 :: t) h Q) := en_getfield (cj := 2) mm62 dX5_quenched_4 (by decide +kernel)
theorem i62_7 {d l0 x h Q} : Ev d 62 7 [l0] [.int x] h Q = Q (.inl (some (.int x))) h := en_ireturnI mm62 dX5_quenched_7 rfl
abbrev em63 : MI := (yX5_quenchLeft, cX5_quenchLeft, 1, some .int, 5, [])
theorem mm63 : mtab[63]? = some em63 := rfl
theorem in63 {d : Nat} {h : AH} {K : AO → AH → Prop} {v0 : Nat} : EvM d 63 [(.ref v0)] h K = Ev d 63 0 [some (.ref v0)] [] h K := evm_in mm63 (of_decide_eq_true rfl) rfl
theorem i63_0 {d a t h Q} : Ev d 63 0 [some (.ref a)] t h Q = Ev d 63 1 [some (.ref a)] (.ref a :: t) h Q := en_aload_n mm63 dX5_quenchLeft_0 rfl
theorem i63_1 {d a l0 t h Q} : Ev d 63 1 [l0] (.ref a :: t) h Q = (hk h a = 6 ∧ Ev d 63 4 [l0] (hF h a 1 :: t) h Q) := en_getfield (cj := 5) mm63 dX5_quenchLeft_1 (by decide +kernel)
theorem i63_4 {d a l0 t h Q} : Ev d 63 4 [l0] (.ref a :: t) h Q = (hk h a = 3 ∧ Ev d 63 7 [l0] (hF h a 4 :: t) h Q) := en_getfield (cj := 2) mm63 dX5_quenchLeft_4 (by decide +kernel)
theorem i63_7 {d l0 x h Q} : Ev d 63 7 [l0] [.int x] h Q = Q (.inl (some (.int x))) h := en_ireturnI mm63 dX5_quenchLeft_7 rfl
abbrev em64 : MI := (yX5_count, cX5_count, 2, some .int, 5, [])
theorem mm64 : mtab[64]? = some em64 := rfl
theorem in64 {d : Nat} {h : AH} {K : AO → AH → Prop} {v0 : Nat} {v1 : Int32} : EvM d 64 [(.ref v0), (.int v1)] h K = Ev d 64 0 [some (.ref v0), some (.int v1)] [] h K := evm_in mm64 (of_decide_eq_true rfl) rfl
theorem i64_0 {d l0 t x h Q} : Ev d 64 0 [l0, some (.int x)] t h Q = Ev d 64 1 [l0, some (.int x)] (.int x :: t) h Q := en_iload_n mm64 dX5_count_0 rfl
theorem i64_1 {d l0 l1 t h Q} : Ev d 64 1 [l0, l1] t h Q = Ev d 64 2 [l0, l1] (.int 0 :: t) h Q := en_iconst mm64 dX5_count_1 (by decide)
theorem i64_2 {d l0 l1 t h Q} : Ev d 64 2 [l0, l1] t h Q = Ev d 64 3 [l0, l1] (.int 5 :: t) h Q := en_iconst mm64 dX5_count_2 (by decide)
theorem i64_3 {d l0 l1 x0 x1 x2 h Q} : Ev (d + 1) 64 3 [l0, l1] [x0, x1, x2] h Q = EvM d 79 [x2, x1, x0] h (konN (d + 1) 64 6 [l0, l1] [] Q) := en_staticN mm64 dX5_count_3 (by decide +kernel : ml _ _ = some (0, 79)) (by decide) (rfl : mtab[79]? = some _) (by decide +kernel : npar _ = 3) (of_decide_eq_true rfl) (len_cat (of_decide_eq_true rfl)) rfl rfl rfl
theorem i64_6 {d a l1 t h Q} : Ev d 64 6 [some (.ref a), l1] t h Q = Ev d 64 7 [some (.ref a), l1] (.ref a :: t) h Q := en_aload_n mm64 dX5_count_6 rfl
theorem i64_7 {d a l0 l1 t h Q} : Ev d 64 7 [l0, l1] (.ref a :: t) h Q = (hk h a = 6 ∧ Ev d 64 10 [l0, l1] (hF h a 1 :: t) h Q) := en_getfield (cj := 5) mm64 dX5_count_7 (by decide +kernel)
theorem i64_10 {d l0 t x h Q} : Ev d 64 10 [l0, some (.int x)] t h Q = Ev d 64 11 [l0, some (.int x)] (.int x :: t) h Q := en_iload_n mm64 dX5_count_10 rfl
theorem i64_11 {d a l0 l1 x0 h Q} : Ev (d + 1) 64 11 [l0, l1] [x0, .ref a] h Q = (hk h a = 3 ∧ EvM d 14 [.ref a, x0] h (konN (d + 1) 64 14 [l0, l1] [] Q)) := en_virtualN mm64 dX5_count_11 (by decide +kernel : ml _ _ = some (3, 14)) (by decide) (rfl : mtab[14]? = some _) (by decide +kernel : npar _ = 1) rfl (by decide) rfl (of_decide_eq_true rfl) (len_cat (of_decide_eq_true rfl)) rfl rfl rfl
theorem i64_14 {d l0 l1 x h Q} : Ev d 64 14 [l0, l1] [.int x] h Q = Q (.inl (some (.int x))) h := en_ireturnI mm64 dX5_count_14 rfl
abbrev em65 : MI := (yX5_learned, cX5_learned, 3, some .int, 5, [])
theorem mm65 : mtab[65]? = some em65 := rfl
theorem in65 {d : Nat} {h : AH} {K : AO → AH → Prop} {v0 : Nat} {v1 : Int32} {v2 : Int32} : EvM d 65 [(.ref v0), (.int v1), (.int v2)] h K = Ev d 65 0 [some (.ref v0), some (.int v1), some (.int v2)] [] h K := evm_in mm65 (of_decide_eq_true rfl) rfl
theorem i65_0 {d l0 l2 t x h Q} : Ev d 65 0 [l0, some (.int x), l2] t h Q = Ev d 65 1 [l0, some (.int x), l2] (.int x :: t) h Q := en_iload_n mm65 dX5_learned_0 rfl
theorem i65_1 {d l0 l1 l2 t h Q} : Ev d 65 1 [l0, l1, l2] t h Q = Ev d 65 2 [l0, l1, l2] (.int 2 :: t) h Q := en_iconst mm65 dX5_learned_1 (by decide)
theorem i65_2 {d l0 l1 l2 t h Q} : Ev d 65 2 [l0, l1, l2] t h Q = Ev d 65 4 [l0, l1, l2] (.int 19 :: t) h Q := en_bipush mm65 dX5_learned_2 (by decide)
theorem i65_4 {d l0 l1 l2 x0 x1 x2 h Q} : Ev (d + 1) 65 4 [l0, l1, l2] [x0, x1, x2] h Q = EvM d 79 [x2, x1, x0] h (konN (d + 1) 65 7 [l0, l1, l2] [] Q) := en_staticN mm65 dX5_learned_4 (by decide +kernel : ml _ _ = some (0, 79)) (by decide) (rfl : mtab[79]? = some _) (by decide +kernel : npar _ = 3) (of_decide_eq_true rfl) (len_cat (of_decide_eq_true rfl)) rfl rfl rfl
theorem i65_7 {d l0 l1 t x h Q} : Ev d 65 7 [l0, l1, some (.int x)] t h Q = Ev d 65 8 [l0, l1, some (.int x)] (.int x :: t) h Q := en_iload_n mm65 dX5_learned_7 rfl
theorem i65_8_0 {d l0 l1 l2 t h Q} : Ev d 65 8 [l0, l1, l2] (.int 0 :: t) h Q = Ev d 65 48 [l0, l1, l2] t h Q := en_tsw mm65 dX5_learned_8 rfl
theorem i65_8_1 {d l0 l1 l2 t h Q} : Ev d 65 8 [l0, l1, l2] (.int 1 :: t) h Q = Ev d 65 58 [l0, l1, l2] t h Q := en_tsw mm65 dX5_learned_8 rfl
theorem i65_8_2 {d l0 l1 l2 t h Q} : Ev d 65 8 [l0, l1, l2] (.int 2 :: t) h Q = Ev d 65 68 [l0, l1, l2] t h Q := en_tsw mm65 dX5_learned_8 rfl
theorem i65_8_3 {d l0 l1 l2 t h Q} : Ev d 65 8 [l0, l1, l2] (.int 3 :: t) h Q = Ev d 65 78 [l0, l1, l2] t h Q := en_tsw mm65 dX5_learned_8 rfl
theorem i65_8_4 {d l0 l1 l2 t h Q} : Ev d 65 8 [l0, l1, l2] (.int 4 :: t) h Q = Ev d 65 88 [l0, l1, l2] t h Q := en_tsw mm65 dX5_learned_8 rfl
theorem i65_8_5 {d l0 l1 l2 t h Q} : Ev d 65 8 [l0, l1, l2] (.int 5 :: t) h Q = Ev d 65 101 [l0, l1, l2] t h Q := en_tsw mm65 dX5_learned_8 rfl
theorem i65_8_d {d l0 l1 l2 t h Q} {x : Int32} (hx : x.toInt < 0 ∨ 5 < x.toInt) : Ev d 65 8 [l0, l1, l2] (.int x :: t) h Q = Ev d 65 114 [l0, l1, l2] t h Q := en_tsw mm65 dX5_learned_8 (if_pos hx)
theorem i65_48 {d a l1 l2 t h Q} : Ev d 65 48 [some (.ref a), l1, l2] t h Q = Ev d 65 49 [some (.ref a), l1, l2] (.ref a :: t) h Q := en_aload_n mm65 dX5_learned_48 rfl
theorem i65_49 {d a l0 l1 l2 t h Q} : Ev d 65 49 [l0, l1, l2] (.ref a :: t) h Q = (hk h a = 6 ∧ Ev d 65 52 [l0, l1, l2] (hF h a 1 :: t) h Q) := en_getfield (cj := 5) mm65 dX5_learned_49 (by decide +kernel)
theorem i65_52 {d a l0 l1 l2 t h Q} : Ev d 65 52 [l0, l1, l2] (.ref a :: t) h Q = (hk h a = 3 ∧ Ev d 65 55 [l0, l1, l2] (hF h a 11 :: t) h Q) := en_getfield (cj := 2) mm65 dX5_learned_52 (by decide +kernel)
theorem i65_55 {d l0 l2 t x h Q} : Ev d 65 55 [l0, some (.int x), l2] t h Q = Ev d 65 56 [l0, some (.int x), l2] (.int x :: t) h Q := en_iload_n mm65 dX5_learned_55 rfl
theorem i65_56 {d a j l0 l1 l2 t h Q} : Ev d 65 56 [l0, l1, l2] (.int j :: .ref a :: t) h Q = (hk h a = 10 ∧ inb j (hl h a) ∧ Ev d 65 57 [l0, l1, l2] (.int (hA h a j.toNatClampNeg) :: t) h Q) := en_iaload mm65 dX5_learned_56
theorem i65_57 {d l0 l1 l2 x h Q} : Ev d 65 57 [l0, l1, l2] [.int x] h Q = Q (.inl (some (.int x))) h := en_ireturnI mm65 dX5_learned_57 rfl
theorem i65_58 {d a l1 l2 t h Q} : Ev d 65 58 [some (.ref a), l1, l2] t h Q = Ev d 65 59 [some (.ref a), l1, l2] (.ref a :: t) h Q := en_aload_n mm65 dX5_learned_58 rfl
theorem i65_59 {d a l0 l1 l2 t h Q} : Ev d 65 59 [l0, l1, l2] (.ref a :: t) h Q = (hk h a = 6 ∧ Ev d 65 62 [l0, l1, l2] (hF h a 1 :: t) h Q) := en_getfield (cj := 5) mm65 dX5_learned_59 (by decide +kernel)
theorem i65_62 {d a l0 l1 l2 t h Q} : Ev d 65 62 [l0, l1, l2] (.ref a :: t) h Q = (hk h a = 3 ∧ Ev d 65 65 [l0, l1, l2] (hF h a 12 :: t) h Q) := en_getfield (cj := 2) mm65 dX5_learned_62 (by decide +kernel)
theorem i65_65 {d l0 l2 t x h Q} : Ev d 65 65 [l0, some (.int x), l2] t h Q = Ev d 65 66 [l0, some (.int x), l2] (.int x :: t) h Q := en_iload_n mm65 dX5_learned_65 rfl
theorem i65_66 {d a j l0 l1 l2 t h Q} : Ev d 65 66 [l0, l1, l2] (.int j :: .ref a :: t) h Q = (hk h a = 10 ∧ inb j (hl h a) ∧ Ev d 65 67 [l0, l1, l2] (.int (hA h a j.toNatClampNeg) :: t) h Q) := en_iaload mm65 dX5_learned_66
theorem i65_67 {d l0 l1 l2 x h Q} : Ev d 65 67 [l0, l1, l2] [.int x] h Q = Q (.inl (some (.int x))) h := en_ireturnI mm65 dX5_learned_67 rfl
theorem i65_68 {d a l1 l2 t h Q} : Ev d 65 68 [some (.ref a), l1, l2] t h Q = Ev d 65 69 [some (.ref a), l1, l2] (.ref a :: t) h Q := en_aload_n mm65 dX5_learned_68 rfl
theorem i65_69 {d a l0 l1 l2 t h Q} : Ev d 65 69 [l0, l1, l2] (.ref a :: t) h Q = (hk h a = 6 ∧ Ev d 65 72 [l0, l1, l2] (hF h a 1 :: t) h Q) := en_getfield (cj := 5) mm65 dX5_learned_69 (by decide +kernel)
theorem i65_72 {d a l0 l1 l2 t h Q} : Ev d 65 72 [l0, l1, l2] (.ref a :: t) h Q = (hk h a = 3 ∧ Ev d 65 75 [l0, l1, l2] (hF h a 13 :: t) h Q) := en_getfield (cj := 2) mm65 dX5_learned_72 (by decide +kernel)
theorem i65_75 {d l0 l2 t x h Q} : Ev d 65 75 [l0, some (.int x), l2] t h Q = Ev d 65 76 [l0, some (.int x), l2] (.int x :: t) h Q := en_iload_n mm65 dX5_learned_75 rfl
theorem i65_76 {d a j l0 l1 l2 t h Q} : Ev d 65 76 [l0, l1, l2] (.int j :: .ref a :: t) h Q = (hk h a = 10 ∧ inb j (hl h a) ∧ Ev d 65 77 [l0, l1, l2] (.int (hA h a j.toNatClampNeg) :: t) h Q) := en_iaload mm65 dX5_learned_76
theorem i65_77 {d l0 l1 l2 x h Q} : Ev d 65 77 [l0, l1, l2] [.int x] h Q = Q (.inl (some (.int x))) h := en_ireturnI mm65 dX5_learned_77 rfl
theorem i65_78 {d a l1 l2 t h Q} : Ev d 65 78 [some (.ref a), l1, l2] t h Q = Ev d 65 79 [some (.ref a), l1, l2] (.ref a :: t) h Q := en_aload_n mm65 dX5_learned_78 rfl
theorem i65_79 {d a l0 l1 l2 t h Q} : Ev d 65 79 [l0, l1, l2] (.ref a :: t) h Q = (hk h a = 6 ∧ Ev d 65 82 [l0, l1, l2] (hF h a 1 :: t) h Q) := en_getfield (cj := 5) mm65 dX5_learned_79 (by decide +kernel)
theorem i65_82 {d a l0 l1 l2 t h Q} : Ev d 65 82 [l0, l1, l2] (.ref a :: t) h Q = (hk h a = 3 ∧ Ev d 65 85 [l0, l1, l2] (hF h a 14 :: t) h Q) := en_getfield (cj := 2) mm65 dX5_learned_82 (by decide +kernel)
theorem i65_85 {d l0 l2 t x h Q} : Ev d 65 85 [l0, some (.int x), l2] t h Q = Ev d 65 86 [l0, some (.int x), l2] (.int x :: t) h Q := en_iload_n mm65 dX5_learned_85 rfl
theorem i65_86 {d a j l0 l1 l2 t h Q} : Ev d 65 86 [l0, l1, l2] (.int j :: .ref a :: t) h Q = (hk h a = 10 ∧ inb j (hl h a) ∧ Ev d 65 87 [l0, l1, l2] (.int (hA h a j.toNatClampNeg) :: t) h Q) := en_iaload mm65 dX5_learned_86
theorem i65_87 {d l0 l1 l2 x h Q} : Ev d 65 87 [l0, l1, l2] [.int x] h Q = Q (.inl (some (.int x))) h := en_ireturnI mm65 dX5_learned_87 rfl
theorem i65_88 {d a l1 l2 t h Q} : Ev d 65 88 [some (.ref a), l1, l2] t h Q = Ev d 65 89 [some (.ref a), l1, l2] (.ref a :: t) h Q := en_aload_n mm65 dX5_learned_88 rfl
theorem i65_89 {d a l0 l1 l2 t h Q} : Ev d 65 89 [l0, l1, l2] (.ref a :: t) h Q = (hk h a = 6 ∧ Ev d 65 92 [l0, l1, l2] (hF h a 1 :: t) h Q) := en_getfield (cj := 5) mm65 dX5_learned_89 (by decide +kernel)
theorem i65_92 {d a l0 l1 l2 t h Q} : Ev d 65 92 [l0, l1, l2] (.ref a :: t) h Q = (hk h a = 3 ∧ Ev d 65 95 [l0, l1, l2] (hF h a 0 :: t) h Q) := en_getfield (cj := 2) mm65 dX5_learned_92 (by decide +kernel)
theorem i65_95 {d a l0 l1 l2 t h Q} : Ev d 65 95 [l0, l1, l2] (.ref a :: t) h Q = (hk h a = 4 ∧ Ev d 65 98 [l0, l1, l2] (hF h a 8 :: t) h Q) := en_getfield (cj := 3) mm65 dX5_learned_95 (by decide +kernel)
theorem i65_98 {d l0 l2 t x h Q} : Ev d 65 98 [l0, some (.int x), l2] t h Q = Ev d 65 99 [l0, some (.int x), l2] (.int x :: t) h Q := en_iload_n mm65 dX5_learned_98 rfl
theorem i65_99 {d a j l0 l1 l2 t h Q} : Ev d 65 99 [l0, l1, l2] (.int j :: .ref a :: t) h Q = (hk h a = 10 ∧ inb j (hl h a) ∧ Ev d 65 100 [l0, l1, l2] (.int (hA h a j.toNatClampNeg) :: t) h Q) := en_iaload mm65 dX5_learned_99
theorem i65_100 {d l0 l1 l2 x h Q} : Ev d 65 100 [l0, l1, l2] [.int x] h Q = Q (.inl (some (.int x))) h := en_ireturnI mm65 dX5_learned_100 rfl
theorem i65_101 {d a l1 l2 t h Q} : Ev d 65 101 [some (.ref a), l1, l2] t h Q = Ev d 65 102 [some (.ref a), l1, l2] (.ref a :: t) h Q := en_aload_n mm65 dX5_learned_101 rfl
theorem i65_102 {d a l0 l1 l2 t h Q} : Ev d 65 102 [l0, l1, l2] (.ref a :: t) h Q = (hk h a = 6 ∧ Ev d 65 105 [l0, l1, l2] (hF h a 1 :: t) h Q) := en_getfield (cj := 5) mm65 dX5_learned_102 (by decide +kernel)
theorem i65_105 {d a l0 l1 l2 t h Q} : Ev d 65 105 [l0, l1, l2] (.ref a :: t) h Q = (hk h a = 3 ∧ Ev d 65 108 [l0, l1, l2] (hF h a 0 :: t) h Q) := en_getfield (cj := 2) mm65 dX5_learned_105 (by decide +kernel)
theorem i65_108 {d a l0 l1 l2 t h Q} : Ev d 65 108 [l0, l1, l2] (.ref a :: t) h Q = (hk h a = 4 ∧ Ev d 65 111 [l0, l1, l2] (hF h a 9 :: t) h Q) := en_getfield (cj := 3) mm65 dX5_learned_108 (by decide +kernel)
theorem i65_111 {d l0 l2 t x h Q} : Ev d 65 111 [l0, some (.int x), l2] t h Q = Ev d 65 112 [l0, some (.int x), l2] (.int x :: t) h Q := en_iload_n mm65 dX5_learned_111 rfl
theorem i65_112 {d a j l0 l1 l2 t h Q} : Ev d 65 112 [l0, l1, l2] (.int j :: .ref a :: t) h Q = (hk h a = 10 ∧ inb j (hl h a) ∧ Ev d 65 113 [l0, l1, l2] (.int (hA h a j.toNatClampNeg) :: t) h Q) := en_iaload mm65 dX5_learned_112
theorem i65_113 {d l0 l1 l2 x h Q} : Ev d 65 113 [l0, l1, l2] [.int x] h Q = Q (.inl (some (.int x))) h := en_ireturnI mm65 dX5_learned_113 rfl
theorem i65_114 {d l0 l1 l2 h Q} : Ev (d + 10) 65 114 [l0, l1, l2] [] h Q = Q (.inr 0) (alH h) := en_throw mm65 dX5_learned_114 (by decide +kernel) (athr_of (by decide +kernel : look _ exT = some (615, 0)) dX5_learned_117 dX5_learned_118 dX5_learned_120 dX5_learned_123 (by decide +kernel) (by decide +kernel) rfl)
theorem i65_117 {d a l0 l1 l2 t h Q} : Ev d 65 117 [l0, l1, l2] (.ref a :: t) h Q = Ev d 65 118 [l0, l1, l2] (.ref a :: .ref a :: t) h Q := en_dup mm65 dX5_learned_117
theorem i65_118 {d l0 l1 l2 t h Q} : Ev d 65 118 [l0, l1, l2] t h Q = Ev d 65 120 [l0, l1, l2] (litV 20 :: t) h Q := en_ldcS mm65 dX5_learned_118 (by decide +kernel) (by decide +kernel)
abbrev em66 : MI := (yX5_guard, cX5_guard, 3, some .int, 5, [])
theorem mm66 : mtab[66]? = some em66 := rfl
theorem in66 {d : Nat} {h : AH} {K : AO → AH → Prop} {v0 : Nat} {v1 : Int32} : EvM d 66 [(.ref v0), (.int v1)] h K = Ev d 66 0 [some (.ref v0), some (.int v1), none] [] h K := evm_in mm66 (of_decide_eq_true rfl) rfl
theorem i66_0 {d l0 l2 t x h Q} : Ev d 66 0 [l0, some (.int x), l2] t h Q = Ev d 66 1 [l0, some (.int x), l2] (.int x :: t) h Q := en_iload_n mm66 dX5_guard_0 rfl
theorem i66_1 {d l0 l1 l2 t h Q} : Ev d 66 1 [l0, l1, l2] t h Q = Ev d 66 2 [l0, l1, l2] (.int 2 :: t) h Q := en_iconst mm66 dX5_guard_1 (by decide)
theorem i66_2 {d l0 l1 l2 t h Q} : Ev d 66 2 [l0, l1, l2] t h Q = Ev d 66 4 [l0, l1, l2] (.int 19 :: t) h Q := en_bipush mm66 dX5_guard_2 (by decide)
theorem i66_4 {d l0 l1 l2 x0 x1 x2 h Q} : Ev (d + 1) 66 4 [l0, l1, l2] [x0, x1, x2] h Q = EvM d 79 [x2, x1, x0] h (konN (d + 1) 66 7 [l0, l1, l2] [] Q) := en_staticN mm66 dX5_guard_4 (by decide +kernel : ml _ _ = some (0, 79)) (by decide) (rfl : mtab[79]? = some _) (by decide +kernel : npar _ = 3) (of_decide_eq_true rfl) (len_cat (of_decide_eq_true rfl)) rfl rfl rfl
theorem i66_7 {d a l1 l2 t h Q} : Ev d 66 7 [some (.ref a), l1, l2] t h Q = Ev d 66 8 [some (.ref a), l1, l2] (.ref a :: t) h Q := en_aload_n mm66 dX5_guard_7 rfl
theorem i66_8 {d a l0 l1 l2 t h Q} : Ev d 66 8 [l0, l1, l2] (.ref a :: t) h Q = (hk h a = 6 ∧ Ev d 66 11 [l0, l1, l2] (hF h a 1 :: t) h Q) := en_getfield (cj := 5) mm66 dX5_guard_8 (by decide +kernel)
theorem i66_11 {d a l0 l1 l2 h Q} : Ev (d + 1) 66 11 [l0, l1, l2] [.ref a] h Q = (hk h a = 3 ∧ EvM d 7 [.ref a] h (konN (d + 1) 66 14 [l0, l1, l2] [] Q)) := en_virtualN mm66 dX5_guard_11 (by decide +kernel : ml _ _ = some (3, 7)) (by decide) (rfl : mtab[7]? = some _) (by decide +kernel : npar _ = 0) rfl (by decide) rfl (of_decide_eq_true rfl) (len_cat (of_decide_eq_true rfl)) rfl rfl rfl
theorem i66_14 {d l0 l1 l2 t x h Q} : Ev d 66 14 [l0, l1, l2] (.int x :: t) h Q = if x = 0 then Ev d 66 17 [l0, l1, l2] t h Q else Ev d 66 19 [l0, l1, l2] t h Q := en_if_ne mm66 dX5_guard_14 rfl
theorem i66_17 {d l0 l1 l2 t h Q} : Ev d 66 17 [l0, l1, l2] t h Q = Ev d 66 18 [l0, l1, l2] (.int (-1) :: t) h Q := en_iconst mm66 dX5_guard_17 (by decide)
theorem i66_18 {d l0 l1 l2 x h Q} : Ev d 66 18 [l0, l1, l2] [.int x] h Q = Q (.inl (some (.int x))) h := en_ireturnI mm66 dX5_guard_18 rfl
theorem i66_19 {d a l1 l2 t h Q} : Ev d 66 19 [some (.ref a), l1, l2] t h Q = Ev d 66 20 [some (.ref a), l1, l2] (.ref a :: t) h Q := en_aload_n mm66 dX5_guard_19 rfl
theorem i66_20 {d a l0 l1 l2 t h Q} : Ev d 66 20 [l0, l1, l2] (.ref a :: t) h Q = (hk h a = 6 ∧ Ev d 66 23 [l0, l1, l2] (hF h a 2 :: t) h Q) := en_getfield (cj := 5) mm66 dX5_guard_20 (by decide +kernel)
theorem i66_23 {d a l1 l2 t h Q} : Ev d 66 23 [some (.ref a), l1, l2] t h Q = Ev d 66 24 [some (.ref a), l1, l2] (.ref a :: t) h Q := en_aload_n mm66 dX5_guard_23 rfl
theorem i66_24 {d a l0 l1 l2 t h Q} : Ev d 66 24 [l0, l1, l2] (.ref a :: t) h Q = (hk h a = 6 ∧ Ev d 66 27 [l0, l1, l2] (hF h a 1 :: t) h Q) := en_getfield (cj := 5) mm66 dX5_guard_24 (by decide +kernel)
theorem i66_27 {d a l0 l1 l2 x0 h Q} : Ev (d + 1) 66 27 [l0, l1, l2] [x0, .ref a] h Q = (hk h a = 3 ∧ EvM d 13 [.ref a, x0] h (konN (d + 1) 66 30 [l0, l1, l2] [] Q)) := en_virtualN mm66 dX5_guard_27 (by decide +kernel : ml _ _ = some (3, 13)) (by decide) (rfl : mtab[13]? = some _) (by decide +kernel : npar _ = 1) rfl (by decide) rfl (of_decide_eq_true rfl) (len_cat (of_decide_eq_true rfl)) rfl rfl rfl
theorem i66_30 {d a l1 l2 t h Q} : Ev d 66 30 [some (.ref a), l1, l2] t h Q = Ev d 66 31 [some (.ref a), l1, l2] (.ref a :: t) h Q := en_aload_n mm66 dX5_guard_30 rfl
theorem i66_31 {d a l0 l1 l2 t h Q} : Ev d 66 31 [l0, l1, l2] (.ref a :: t) h Q = (hk h a = 6 ∧ Ev d 66 34 [l0, l1, l2] (hF h a 2 :: t) h Q) := en_getfield (cj := 5) mm66 dX5_guard_31 (by decide +kernel)
theorem i66_34 {d l0 l2 t x h Q} : Ev d 66 34 [l0, some (.int x), l2] t h Q = Ev d 66 35 [l0, some (.int x), l2] (.int x :: t) h Q := en_iload_n mm66 dX5_guard_34 rfl
theorem i66_35 {d a l0 l1 l2 x0 h Q} : Ev (d + 1) 66 35 [l0, l1, l2] [x0, .ref a] h Q = (hk h a = 3 ∧ EvM d 11 [.ref a, x0] h (konN (d + 1) 66 38 [l0, l1, l2] [] Q)) := en_virtualN mm66 dX5_guard_35 (by decide +kernel : ml _ _ = some (3, 11)) (by decide) (rfl : mtab[11]? = some _) (by decide +kernel : npar _ = 1) rfl (by decide) rfl (of_decide_eq_true rfl) (len_cat (of_decide_eq_true rfl)) rfl rfl rfl
theorem i66_38 {d a l1 l2 t h Q} : Ev d 66 38 [some (.ref a), l1, l2] t h Q = Ev d 66 39 [some (.ref a), l1, l2] (.ref a :: t) h Q := en_aload_n mm66 dX5_guard_38 rfl
theorem i66_39 {d a l0 l1 l2 t h Q} : Ev d 66 39 [l0, l1, l2] (.ref a :: t) h Q = (hk h a = 6 ∧ Ev d 66 42 [l0, l1, l2] (hF h a 2 :: t) h Q) := en_getfield (cj := 5) mm66 dX5_guard_39 (by decide +kernel)
theorem i66_42 {d l0 l1 l2 t h Q} : Ev d 66 42 [l0, l1, l2] t h Q = Ev d 66 45 [l0, l1, l2] (.int 300 :: t) h Q := en_sipush mm66 dX5_guard_42 (by decide)
theorem i66_45 {d a l0 l1 l2 x0 h Q} : Ev (d + 1) 66 45 [l0, l1, l2] [x0, .ref a] h Q = (hk h a = 3 ∧ EvM d 16 [.ref a, x0] h (konN (d + 1) 66 48 [l0, l1, l2] [] Q)) := en_virtualN mm66 dX5_guard_45 (by decide +kernel : ml _ _ = some (3, 16)) (by decide) (rfl : mtab[16]? = some _) (by decide +kernel : npar _ = 1) rfl (by decide) rfl (of_decide_eq_true rfl) (len_cat (of_decide_eq_true rfl)) rfl rfl rfl
theorem i66_48 {d l0 l1 l2 t x h Q} : Ev d 66 48 [l0, l1, l2] (.int x :: t) h Q = Ev d 66 49 [l0, nl l1, some (.int x)] t h Q := en_istore_n mm66 dX5_guard_48 (of_decide_eq_true rfl) rfl
theorem i66_49 {d a l1 l2 t h Q} : Ev d 66 49 [some (.ref a), l1, l2] t h Q = Ev d 66 50 [some (.ref a), l1, l2] (.ref a :: t) h Q := en_aload_n mm66 dX5_guard_49 rfl
theorem i66_50 {d a l0 l1 l2 t h Q} : Ev d 66 50 [l0, l1, l2] (.ref a :: t) h Q = (hk h a = 6 ∧ Ev d 66 53 [l0, l1, l2] (hF h a 2 :: t) h Q) := en_getfield (cj := 5) mm66 dX5_guard_50 (by decide +kernel)
theorem i66_53 {d l0 l1 l2 t h Q} : Ev d 66 53 [l0, l1, l2] t h Q = Ev d 66 54 [l0, l1, l2] (.int 3 :: t) h Q := en_iconst mm66 dX5_guard_53 (by decide)
theorem i66_54 {d a l0 l1 l2 x0 h Q} : Ev (d + 1) 66 54 [l0, l1, l2] [x0, .ref a] h Q = (hk h a = 3 ∧ EvM d 14 [.ref a, x0] h (konN (d + 1) 66 57 [l0, l1, l2] [] Q)) := en_virtualN mm66 dX5_guard_54 (by decide +kernel : ml _ _ = some (3, 14)) (by decide) (rfl : mtab[14]? = some _) (by decide +kernel : npar _ = 1) rfl (by decide) rfl (of_decide_eq_true rfl) (len_cat (of_decide_eq_true rfl)) rfl rfl rfl
theorem i66_57 {d l0 l1 l2 t h Q} : Ev d 66 57 [l0, l1, l2] t h Q = Ev d 66 58 [l0, l1, l2] (.int 1 :: t) h Q := en_iconst mm66 dX5_guard_57 (by decide)
theorem i66_58 {d l0 l1 l2 t x y h Q} : Ev d 66 58 [l0, l1, l2] (.int y :: .int x :: t) h Q = if x = y then Ev d 66 61 [l0, l1, l2] t h Q else Ev d 66 65 [l0, l1, l2] t h Q := en_ic_ne mm66 dX5_guard_58 rfl
theorem i66_61 {d l0 l1 t x h Q} : Ev d 66 61 [l0, l1, some (.int x)] t h Q = Ev d 66 62 [l0, l1, some (.int x)] (.int x :: t) h Q := en_iload_n mm66 dX5_guard_61 rfl
theorem i66_62 {d l0 l1 l2 t h Q} : Ev d 66 62 [l0, l1, l2] t h Q = Ev d 66 66 [l0, l1, l2] t h Q := en_goto mm66 dX5_guard_62 rfl
theorem i66_65 {d l0 l1 l2 t h Q} : Ev d 66 65 [l0, l1, l2] t h Q = Ev d 66 66 [l0, l1, l2] (.int (-1) :: t) h Q := en_iconst mm66 dX5_guard_65 (by decide)
theorem i66_66 {d l0 l1 l2 x h Q} : Ev d 66 66 [l0, l1, l2] [.int x] h Q = Q (.inl (some (.int x))) h := en_ireturnI mm66 dX5_guard_66 rfl
abbrev em67 : MI := (yX5_finishTime, cX5_finishTime, 2, some .int, 5, [])
theorem mm67 : mtab[67]? = some em67 := rfl
theorem in67 {d : Nat} {h : AH} {K : AO → AH → Prop} {v0 : Nat} {v1 : Int32} : EvM d 67 [(.ref v0), (.int v1)] h K = Ev d 67 0 [some (.ref v0), some (.int v1)] [] h K := evm_in mm67 (of_decide_eq_true rfl) rfl
theorem i67_0 {d l0 t x h Q} : Ev d 67 0 [l0, some (.int x)] t h Q = Ev d 67 1 [l0, some (.int x)] (.int x :: t) h Q := en_iload_n mm67 dX5_finishTime_0 rfl
theorem i67_1 {d l0 l1 t h Q} : Ev d 67 1 [l0, l1] t h Q = Ev d 67 2 [l0, l1] (.int 0 :: t) h Q := en_iconst mm67 dX5_finishTime_1 (by decide)
theorem i67_2 {d l0 l1 t h Q} : Ev d 67 2 [l0, l1] t h Q = Ev d 67 5 [l0, l1] (.int 300 :: t) h Q := en_sipush mm67 dX5_finishTime_2 (by decide)
theorem i67_5 {d l0 l1 x0 x1 x2 h Q} : Ev (d + 1) 67 5 [l0, l1] [x0, x1, x2] h Q = EvM d 79 [x2, x1, x0] h (konN (d + 1) 67 8 [l0, l1] [] Q) := en_staticN mm67 dX5_finishTime_5 (by decide +kernel : ml _ _ = some (0, 79)) (by decide) (rfl : mtab[79]? = some _) (by decide +kernel : npar _ = 3) (of_decide_eq_true rfl) (len_cat (of_decide_eq_true rfl)) rfl rfl rfl
theorem i67_8 {d a l1 t h Q} : Ev d 67 8 [some (.ref a), l1] t h Q = Ev d 67 9 [some (.ref a), l1] (.ref a :: t) h Q := en_aload_n mm67 dX5_finishTime_8 rfl
theorem i67_9 {d a l0 l1 t h Q} : Ev d 67 9 [l0, l1] (.ref a :: t) h Q = (hk h a = 6 ∧ Ev d 67 12 [l0, l1] (hF h a 2 :: t) h Q) := en_getfield (cj := 5) mm67 dX5_finishTime_9 (by decide +kernel)
theorem i67_12 {d a l1 t h Q} : Ev d 67 12 [some (.ref a), l1] t h Q = Ev d 67 13 [some (.ref a), l1] (.ref a :: t) h Q := en_aload_n mm67 dX5_finishTime_12 rfl
theorem i67_13 {d a l0 l1 t h Q} : Ev d 67 13 [l0, l1] (.ref a :: t) h Q = (hk h a = 6 ∧ Ev d 67 16 [l0, l1] (hF h a 1 :: t) h Q) := en_getfield (cj := 5) mm67 dX5_finishTime_13 (by decide +kernel)
theorem i67_16 {d a l0 l1 x0 h Q} : Ev (d + 1) 67 16 [l0, l1] [x0, .ref a] h Q = (hk h a = 3 ∧ EvM d 13 [.ref a, x0] h (konN (d + 1) 67 19 [l0, l1] [] Q)) := en_virtualN mm67 dX5_finishTime_16 (by decide +kernel : ml _ _ = some (3, 13)) (by decide) (rfl : mtab[13]? = some _) (by decide +kernel : npar _ = 1) rfl (by decide) rfl (of_decide_eq_true rfl) (len_cat (of_decide_eq_true rfl)) rfl rfl rfl
theorem i67_19 {d a l1 t h Q} : Ev d 67 19 [some (.ref a), l1] t h Q = Ev d 67 20 [some (.ref a), l1] (.ref a :: t) h Q := en_aload_n mm67 dX5_finishTime_19 rfl
theorem i67_20 {d a l0 l1 t h Q} : Ev d 67 20 [l0, l1] (.ref a :: t) h Q = (hk h a = 6 ∧ Ev d 67 23 [l0, l1] (hF h a 2 :: t) h Q) := en_getfield (cj := 5) mm67 dX5_finishTime_20 (by decide +kernel)
theorem i67_23 {d l0 t x h Q} : Ev d 67 23 [l0, some (.int x)] t h Q = Ev d 67 24 [l0, some (.int x)] (.int x :: t) h Q := en_iload_n mm67 dX5_finishTime_23 rfl
theorem i67_24 {d a l0 l1 x0 h Q} : Ev (d + 1) 67 24 [l0, l1] [x0, .ref a] h Q = (hk h a = 3 ∧ EvM d 16 [.ref a, x0] h (konN (d + 1) 67 27 [l0, l1] [] Q)) := en_virtualN mm67 dX5_finishTime_24 (by decide +kernel : ml _ _ = some (3, 16)) (by decide) (rfl : mtab[16]? = some _) (by decide +kernel : npar _ = 1) rfl (by decide) rfl (of_decide_eq_true rfl) (len_cat (of_decide_eq_true rfl)) rfl rfl rfl
theorem i67_27 {d l0 l1 x h Q} : Ev d 67 27 [l0, l1] [.int x] h Q = Q (.inl (some (.int x))) h := en_ireturnI mm67 dX5_finishTime_27 rfl
abbrev em68 : MI := (yX5_stateAfter, cX5_stateAfter, 3, some .int, 5, [])
theorem mm68 : mtab[68]? = some em68 := rfl
theorem in68 {d : Nat} {h : AH} {K : AO → AH → Prop} {v0 : Nat} {v1 : Int32} {v2 : Int32} : EvM d 68 [(.ref v0), (.int v1), (.int v2)] h K = Ev d 68 0 [some (.ref v0), some (.int v1), some (.int v2)] [] h K := evm_in mm68 (of_decide_eq_true rfl) rfl
theorem i68_0 {d l0 l2 t x h Q} : Ev d 68 0 [l0, some (.int x), l2] t h Q = Ev d 68 1 [l0, some (.int x), l2] (.int x :: t) h Q := en_iload_n mm68 dX5_stateAfter_0 rfl
theorem i68_1 {d a l1 l2 t h Q} : Ev d 68 1 [some (.ref a), l1, l2] t h Q = Ev d 68 2 [some (.ref a), l1, l2] (.ref a :: t) h Q := en_aload_n mm68 dX5_stateAfter_1 rfl
theorem i68_2 {d a l0 l1 l2 t h Q} : Ev d 68 2 [l0, l1, l2] (.ref a :: t) h Q = (hk h a = 6 ∧ Ev d 68 5 [l0, l1, l2] (hF h a 1 :: t) h Q) := en_getfield (cj := 5) mm68 dX5_stateAfter_2 (by decide +kernel)
theorem i68_5 {d a l0 l1 l2 t h Q} : Ev d 68 5 [l0, l1, l2] (.ref a :: t) h Q = (hk h a = 3 ∧ Ev d 68 8 [l0, l1, l2] (hF h a 2 :: t) h Q) := en_getfield (cj := 2) mm68 dX5_stateAfter_5 (by decide +kernel)
theorem i68_8 {d l0 l1 l2 x0 x1 h Q} : Ev (d + 1) 68 8 [l0, l1, l2] [x0, x1] h Q = EvM d 80 [x1, x0] h (konN (d + 1) 68 11 [l0, l1, l2] [] Q) := en_staticN mm68 dX5_stateAfter_8 (by decide +kernel : ml _ _ = some (0, 80)) (by decide) (rfl : mtab[80]? = some _) (by decide +kernel : npar _ = 2) (of_decide_eq_true rfl) (len_cat (of_decide_eq_true rfl)) rfl rfl rfl
theorem i68_11 {d l0 l1 t x h Q} : Ev d 68 11 [l0, l1, some (.int x)] t h Q = Ev d 68 12 [l0, l1, some (.int x)] (.int x :: t) h Q := en_iload_n mm68 dX5_stateAfter_11 rfl
theorem i68_12 {d l0 l1 l2 t h Q} : Ev d 68 12 [l0, l1, l2] t h Q = Ev d 68 13 [l0, l1, l2] (.int 0 :: t) h Q := en_iconst mm68 dX5_stateAfter_12 (by decide)
theorem i68_13 {d l0 l1 l2 t h Q} : Ev d 68 13 [l0, l1, l2] t h Q = Ev d 68 16 [l0, l1, l2] (.int 300 :: t) h Q := en_sipush mm68 dX5_stateAfter_13 (by decide)
theorem i68_16 {d l0 l1 l2 x0 x1 x2 h Q} : Ev (d + 1) 68 16 [l0, l1, l2] [x0, x1, x2] h Q = EvM d 79 [x2, x1, x0] h (konN (d + 1) 68 19 [l0, l1, l2] [] Q) := en_staticN mm68 dX5_stateAfter_16 (by decide +kernel : ml _ _ = some (0, 79)) (by decide) (rfl : mtab[79]? = some _) (by decide +kernel : npar _ = 3) (of_decide_eq_true rfl) (len_cat (of_decide_eq_true rfl)) rfl rfl rfl
theorem i68_19 {d a l1 l2 t h Q} : Ev d 68 19 [some (.ref a), l1, l2] t h Q = Ev d 68 20 [some (.ref a), l1, l2] (.ref a :: t) h Q := en_aload_n mm68 dX5_stateAfter_19 rfl
theorem i68_20 {d a l0 l1 l2 t h Q} : Ev d 68 20 [l0, l1, l2] (.ref a :: t) h Q = (hk h a = 6 ∧ Ev d 68 23 [l0, l1, l2] (hF h a 2 :: t) h Q) := en_getfield (cj := 5) mm68 dX5_stateAfter_20 (by decide +kernel)
theorem i68_23 {d a l1 l2 t h Q} : Ev d 68 23 [some (.ref a), l1, l2] t h Q = Ev d 68 24 [some (.ref a), l1, l2] (.ref a :: t) h Q := en_aload_n mm68 dX5_stateAfter_23 rfl
theorem i68_24 {d a l0 l1 l2 t h Q} : Ev d 68 24 [l0, l1, l2] (.ref a :: t) h Q = (hk h a = 6 ∧ Ev d 68 27 [l0, l1, l2] (hF h a 1 :: t) h Q) := en_getfield (cj := 5) mm68 dX5_stateAfter_24 (by decide +kernel)
theorem i68_27 {d a l0 l1 l2 x0 h Q} : Ev (d + 1) 68 27 [l0, l1, l2] [x0, .ref a] h Q = (hk h a = 3 ∧ EvM d 13 [.ref a, x0] h (konN (d + 1) 68 30 [l0, l1, l2] [] Q)) := en_virtualN mm68 dX5_stateAfter_27 (by decide +kernel : ml _ _ = some (3, 13)) (by decide) (rfl : mtab[13]? = some _) (by decide +kernel : npar _ = 1) rfl (by decide) rfl (of_decide_eq_true rfl) (len_cat (of_decide_eq_true rfl)) rfl rfl rfl
theorem i68_30 {d a l1 l2 t h Q} : Ev d 68 30 [some (.ref a), l1, l2] t h Q = Ev d 68 31 [some (.ref a), l1, l2] (.ref a :: t) h Q := en_aload_n mm68 dX5_stateAfter_30 rfl
theorem i68_31 {d a l0 l1 l2 t h Q} : Ev d 68 31 [l0, l1, l2] (.ref a :: t) h Q = (hk h a = 6 ∧ Ev d 68 34 [l0, l1, l2] (hF h a 2 :: t) h Q) := en_getfield (cj := 5) mm68 dX5_stateAfter_31 (by decide +kernel)
theorem i68_34 {d l0 l1 t x h Q} : Ev d 68 34 [l0, l1, some (.int x)] t h Q = Ev d 68 35 [l0, l1, some (.int x)] (.int x :: t) h Q := en_iload_n mm68 dX5_stateAfter_34 rfl
theorem i68_35 {d a l0 l1 l2 x0 h Q} : Ev (d + 1) 68 35 [l0, l1, l2] [x0, .ref a] h Q = (hk h a = 3 ∧ EvM d 16 [.ref a, x0] h (konN (d + 1) 68 38 [l0, l1, l2] [] Q)) := en_virtualN mm68 dX5_stateAfter_35 (by decide +kernel : ml _ _ = some (3, 16)) (by decide) (rfl : mtab[16]? = some _) (by decide +kernel : npar _ = 1) rfl (by decide) rfl (of_decide_eq_true rfl) (len_cat (of_decide_eq_true rfl)) rfl rfl rfl
theorem i68_38 {d l0 l1 l2 t x h Q} : Ev d 68 38 [l0, l1, l2] (.int x :: t) h Q = Ev d 68 39 [l0, l1, l2] t h Q := en_popI mm68 dX5_stateAfter_38
theorem i68_39 {d a l1 l2 t h Q} : Ev d 68 39 [some (.ref a), l1, l2] t h Q = Ev d 68 40 [some (.ref a), l1, l2] (.ref a :: t) h Q := en_aload_n mm68 dX5_stateAfter_39 rfl
theorem i68_40 {d a l0 l1 l2 t h Q} : Ev d 68 40 [l0, l1, l2] (.ref a :: t) h Q = (hk h a = 6 ∧ Ev d 68 43 [l0, l1, l2] (hF h a 2 :: t) h Q) := en_getfield (cj := 5) mm68 dX5_stateAfter_40 (by decide +kernel)
theorem i68_43 {d a l0 l1 l2 t h Q} : Ev d 68 43 [l0, l1, l2] (.ref a :: t) h Q = (hk h a = 3 ∧ Ev d 68 46 [l0, l1, l2] (hF h a 10 :: t) h Q) := en_getfield (cj := 2) mm68 dX5_stateAfter_43 (by decide +kernel)
theorem i68_46 {d l0 l2 t x h Q} : Ev d 68 46 [l0, some (.int x), l2] t h Q = Ev d 68 47 [l0, some (.int x), l2] (.int x :: t) h Q := en_iload_n mm68 dX5_stateAfter_46 rfl
theorem i68_47 {d a j l0 l1 l2 t h Q} : Ev d 68 47 [l0, l1, l2] (.int j :: .ref a :: t) h Q = (hk h a = 10 ∧ inb j (hl h a) ∧ Ev d 68 48 [l0, l1, l2] (.int (hA h a j.toNatClampNeg) :: t) h Q) := en_iaload mm68 dX5_stateAfter_47
theorem i68_48 {d l0 l1 l2 x h Q} : Ev d 68 48 [l0, l1, l2] [.int x] h Q = Q (.inl (some (.int x))) h := en_ireturnI mm68 dX5_stateAfter_48 rfl
abbrev em69 : MI := (yX5_bestSetpoint, cX5_bestSetpoint, 8, some .int, 5, [])
theorem mm69 : mtab[69]? = some em69 := rfl
theorem in69 {d : Nat} {h : AH} {K : AO → AH → Prop} {v0 : Nat} : EvM d 69 [(.ref v0)] h K = Ev d 69 0 [some (.ref v0), none, none, none, none, none, none, none] [] h K := evm_in mm69 (of_decide_eq_true rfl) rfl
theorem i69_0 {d a l1 l2 l3 l4 l5 l6 l7 t h Q} : Ev d 69 0 [some (.ref a), l1, l2, l3, l4, l5, l6, l7] t h Q = Ev d 69 1 [some (.ref a), l1, l2, l3, l4, l5, l6, l7] (.ref a :: t) h Q := en_aload_n mm69 dX5_bestSetpoint_0 rfl
theorem i69_1 {d a l0 l1 l2 l3 l4 l5 l6 l7 t h Q} : Ev d 69 1 [l0, l1, l2, l3, l4, l5, l6, l7] (.ref a :: t) h Q = (hk h a = 6 ∧ Ev d 69 4 [l0, l1, l2, l3, l4, l5, l6, l7] (hF h a 1 :: t) h Q) := en_getfield (cj := 5) mm69 dX5_bestSetpoint_1 (by decide +kernel)
theorem i69_4 {d a l0 l1 l2 l3 l4 l5 l6 l7 h Q} : Ev (d + 1) 69 4 [l0, l1, l2, l3, l4, l5, l6, l7] [.ref a] h Q = (hk h a = 3 ∧ EvM d 7 [.ref a] h (konN (d + 1) 69 7 [l0, l1, l2, l3, l4, l5, l6, l7] [] Q)) := en_virtualN mm69 dX5_bestSetpoint_4 (by decide +kernel : ml _ _ = some (3, 7)) (by decide) (rfl : mtab[7]? = some _) (by decide +kernel : npar _ = 0) rfl (by decide) rfl (of_decide_eq_true rfl) (len_cat (of_decide_eq_true rfl)) rfl rfl rfl
theorem i69_7 {d l0 l1 l2 l3 l4 l5 l6 l7 t x h Q} : Ev d 69 7 [l0, l1, l2, l3, l4, l5, l6, l7] (.int x :: t) h Q = if x = 0 then Ev d 69 10 [l0, l1, l2, l3, l4, l5, l6, l7] t h Q else Ev d 69 12 [l0, l1, l2, l3, l4, l5, l6, l7] t h Q := en_if_ne mm69 dX5_bestSetpoint_7 rfl
theorem i69_10 {d l0 l1 l2 l3 l4 l5 l6 l7 t h Q} : Ev d 69 10 [l0, l1, l2, l3, l4, l5, l6, l7] t h Q = Ev d 69 11 [l0, l1, l2, l3, l4, l5, l6, l7] (.int (-1) :: t) h Q := en_iconst mm69 dX5_bestSetpoint_10 (by decide)
theorem i69_11 {d l0 l1 l2 l3 l4 l5 l6 l7 x h Q} : Ev d 69 11 [l0, l1, l2, l3, l4, l5, l6, l7] [.int x] h Q = Q (.inl (some (.int x))) h := en_ireturnI mm69 dX5_bestSetpoint_11 rfl
theorem i69_12 {d a l1 l2 l3 l4 l5 l6 l7 t h Q} : Ev d 69 12 [some (.ref a), l1, l2, l3, l4, l5, l6, l7] t h Q = Ev d 69 13 [some (.ref a), l1, l2, l3, l4, l5, l6, l7] (.ref a :: t) h Q := en_aload_n mm69 dX5_bestSetpoint_12 rfl
theorem i69_13 {d a l0 l1 l2 l3 l4 l5 l6 l7 t h Q} : Ev d 69 13 [l0, l1, l2, l3, l4, l5, l6, l7] (.ref a :: t) h Q = (hk h a = 6 ∧ Ev d 69 16 [l0, l1, l2, l3, l4, l5, l6, l7] (hF h a 1 :: t) h Q) := en_getfield (cj := 5) mm69 dX5_bestSetpoint_13 (by decide +kernel)
theorem i69_16 {d a l0 l1 l2 l3 l4 l5 l6 l7 t h Q} : Ev d 69 16 [l0, l1, l2, l3, l4, l5, l6, l7] (.ref a :: t) h Q = (hk h a = 3 ∧ Ev d 69 19 [l0, l1, l2, l3, l4, l5, l6, l7] (hF h a 5 :: t) h Q) := en_getfield (cj := 2) mm69 dX5_bestSetpoint_16 (by decide +kernel)
theorem i69_19 {d a l1 l2 l3 l4 l5 l6 l7 t h Q} : Ev d 69 19 [some (.ref a), l1, l2, l3, l4, l5, l6, l7] t h Q = Ev d 69 20 [some (.ref a), l1, l2, l3, l4, l5, l6, l7] (.ref a :: t) h Q := en_aload_n mm69 dX5_bestSetpoint_19 rfl
theorem i69_20 {d a l0 l1 l2 l3 l4 l5 l6 l7 t h Q} : Ev d 69 20 [l0, l1, l2, l3, l4, l5, l6, l7] (.ref a :: t) h Q = (hk h a = 6 ∧ Ev d 69 23 [l0, l1, l2, l3, l4, l5, l6, l7] (hF h a 1 :: t) h Q) := en_getfield (cj := 5) mm69 dX5_bestSetpoint_20 (by decide +kernel)
theorem i69_23 {d a l0 l1 l2 l3 l4 l5 l6 l7 t h Q} : Ev d 69 23 [l0, l1, l2, l3, l4, l5, l6, l7] (.ref a :: t) h Q = (hk h a = 3 ∧ Ev d 69 26 [l0, l1, l2, l3, l4, l5, l6, l7] (hF h a 0 :: t) h Q) := en_getfield (cj := 2) mm69 dX5_bestSetpoint_23 (by decide +kernel)
theorem i69_26 {d a l0 l1 l2 l3 l4 l5 l6 l7 t h Q} : Ev d 69 26 [l0, l1, l2, l3, l4, l5, l6, l7] (.ref a :: t) h Q = (hk h a = 4 ∧ Ev d 69 29 [l0, l1, l2, l3, l4, l5, l6, l7] (hF h a 0 :: t) h Q) := en_getfield (cj := 3) mm69 dX5_bestSetpoint_26 (by decide +kernel)
theorem i69_29 {d l0 l1 l2 l3 l4 l5 l6 l7 t h Q} : Ev d 69 29 [l0, l1, l2, l3, l4, l5, l6, l7] t h Q = Ev d 69 30 [l0, l1, l2, l3, l4, l5, l6, l7] (.int 1 :: t) h Q := en_iconst mm69 dX5_bestSetpoint_29 (by decide)
theorem i69_30 {d l0 l1 l2 l3 l4 l5 l6 l7 t x y h Q} : Ev d 69 30 [l0, l1, l2, l3, l4, l5, l6, l7] (.int y :: .int x :: t) h Q = Ev d 69 31 [l0, l1, l2, l3, l4, l5, l6, l7] (.int (x - y) :: t) h Q := en_isub mm69 dX5_bestSetpoint_30
theorem i69_31 {d a j l0 l1 l2 l3 l4 l5 l6 l7 t h Q} : Ev d 69 31 [l0, l1, l2, l3, l4, l5, l6, l7] (.int j :: .ref a :: t) h Q = (hk h a = 10 ∧ inb j (hl h a) ∧ Ev d 69 32 [l0, l1, l2, l3, l4, l5, l6, l7] (.int (hA h a j.toNatClampNeg) :: t) h Q) := en_iaload mm69 dX5_bestSetpoint_31
theorem i69_32 {d l0 l1 l2 l3 l4 l5 l6 l7 t x h Q} : Ev d 69 32 [l0, l1, l2, l3, l4, l5, l6, l7] (.int x :: t) h Q = Ev d 69 33 [nl l0, some (.int x), l2, l3, l4, l5, l6, l7] t h Q := en_istore_n mm69 dX5_bestSetpoint_32 (of_decide_eq_true rfl) rfl
theorem i69_33 {d l0 l2 l3 l4 l5 l6 l7 t x h Q} : Ev d 69 33 [l0, some (.int x), l2, l3, l4, l5, l6, l7] t h Q = Ev d 69 34 [l0, some (.int x), l2, l3, l4, l5, l6, l7] (.int x :: t) h Q := en_iload_n mm69 dX5_bestSetpoint_33 rfl
theorem i69_34 {d l0 l1 l2 l3 l4 l5 l6 l7 t x h Q} : Ev d 69 34 [l0, l1, l2, l3, l4, l5, l6, l7] (.int x :: t) h Q = Ev d 69 35 [l0, nl l1, some (.int x), l3, l4, l5, l6, l7] t h Q := en_istore_n mm69 dX5_bestSetpoint_34 (of_decide_eq_true rfl) rfl
theorem i69_35 {d a l1 l2 l3 l4 l5 l6 l7 t h Q} : Ev d 69 35 [some (.ref a), l1, l2, l3, l4, l5, l6, l7] t h Q = Ev d 69 36 [some (.ref a), l1, l2, l3, l4, l5, l6, l7] (.ref a :: t) h Q := en_aload_n mm69 dX5_bestSetpoint_35 rfl
theorem i69_36 {d l0 l2 l3 l4 l5 l6 l7 t x h Q} : Ev d 69 36 [l0, some (.int x), l2, l3, l4, l5, l6, l7] t h Q = Ev d 69 37 [l0, some (.int x), l2, l3, l4, l5, l6, l7] (.int x :: t) h Q := en_iload_n mm69 dX5_bestSetpoint_36 rfl
theorem i69_37 {d a l0 l1 l2 l3 l4 l5 l6 l7 x0 h Q} : Ev (d + 1) 69 37 [l0, l1, l2, l3, l4, l5, l6, l7] [x0, .ref a] h Q = (hk h a = 6 ∧ EvM d 77 [.ref a, x0] h (konN (d + 1) 69 40 [l0, l1, l2, l3, l4, l5, l6, l7] [] Q)) := en_virtualN mm69 dX5_bestSetpoint_37 (by decide +kernel : ml _ _ = some (2, 77)) (by decide) (rfl : mtab[77]? = some _) (by decide +kernel : npar _ = 1) rfl (by decide) rfl (of_decide_eq_true rfl) (len_cat (of_decide_eq_true rfl)) rfl rfl rfl
theorem i69_40 {d l0 l1 l2 l3 l4 l5 l6 l7 t x h Q} : Ev d 69 40 [l0, l1, l2, l3, l4, l5, l6, l7] (.int x :: t) h Q = Ev d 69 41 [l0, l1, nl l2, some (.int x), l4, l5, l6, l7] t h Q := en_istore_n mm69 dX5_bestSetpoint_40 (of_decide_eq_true rfl) rfl
theorem i69_41 {d l0 l1 l2 l3 l4 l5 l6 l7 t h Q} : Ev d 69 41 [l0, l1, l2, l3, l4, l5, l6, l7] t h Q = Ev d 69 43 [l0, l1, l2, l3, l4, l5, l6, l7] (.int 10 :: t) h Q := en_bipush mm69 dX5_bestSetpoint_41 (by decide)
theorem i69_43 {d l0 l1 l2 l3 l4 l5 l6 l7 t x h Q} : Ev d 69 43 [l0, l1, l2, l3, l4, l5, l6, l7] (.int x :: t) h Q = Ev d 69 45 [l0, l1, l2, nl l3, some (.int x), l5, l6, l7] t h Q := en_istore mm69 dX5_bestSetpoint_43 (of_decide_eq_true rfl) rfl
theorem i69_45 {d l0 l1 l2 l3 l5 l6 l7 t x h Q} : Ev d 69 45 [l0, l1, l2, l3, some (.int x), l5, l6, l7] t h Q = Ev d 69 47 [l0, l1, l2, l3, some (.int x), l5, l6, l7] (.int x :: t) h Q := en_iload mm69 dX5_bestSetpoint_45 rfl
theorem i69_47 {d l0 l1 l2 l3 l4 l5 l6 l7 t h Q} : Ev d 69 47 [l0, l1, l2, l3, l4, l5, l6, l7] t h Q = Ev d 69 49 [l0, l1, l2, l3, l4, l5, l6, l7] (.int 30 :: t) h Q := en_bipush mm69 dX5_bestSetpoint_47 (by decide)
theorem i69_49 {d l0 l1 l2 l3 l4 l5 l6 l7 t x y h Q} : Ev d 69 49 [l0, l1, l2, l3, l4, l5, l6, l7] (.int y :: .int x :: t) h Q = if y < x then Ev d 69 115 [l0, l1, l2, l3, l4, l5, l6, l7] t h Q else Ev d 69 52 [l0, l1, l2, l3, l4, l5, l6, l7] t h Q := en_ic_gt mm69 dX5_bestSetpoint_49 rfl
theorem i69_52 {d l0 l1 l2 l3 l4 l5 l6 l7 t h Q} : Ev d 69 52 [l0, l1, l2, l3, l4, l5, l6, l7] t h Q = Ev d 69 53 [l0, l1, l2, l3, l4, l5, l6, l7] (.int (-1) :: t) h Q := en_iconst mm69 dX5_bestSetpoint_52 (by decide)
theorem i69_53 {d l0 l1 l2 l3 l4 l5 l6 l7 t x h Q} : Ev d 69 53 [l0, l1, l2, l3, l4, l5, l6, l7] (.int x :: t) h Q = Ev d 69 55 [l0, l1, l2, l3, nl l4, some (.int x), l6, l7] t h Q := en_istore mm69 dX5_bestSetpoint_53 (of_decide_eq_true rfl) rfl
theorem i69_55 {d l0 l1 l2 l3 l4 l6 l7 t x h Q} : Ev d 69 55 [l0, l1, l2, l3, l4, some (.int x), l6, l7] t h Q = Ev d 69 57 [l0, l1, l2, l3, l4, some (.int x), l6, l7] (.int x :: t) h Q := en_iload mm69 dX5_bestSetpoint_55 rfl
theorem i69_57 {d l0 l1 l2 l3 l4 l5 l6 l7 t h Q} : Ev d 69 57 [l0, l1, l2, l3, l4, l5, l6, l7] t h Q = Ev d 69 58 [l0, l1, l2, l3, l4, l5, l6, l7] (.int 1 :: t) h Q := en_iconst mm69 dX5_bestSetpoint_57 (by decide)
theorem i69_58 {d l0 l1 l2 l3 l4 l5 l6 l7 t x y h Q} : Ev d 69 58 [l0, l1, l2, l3, l4, l5, l6, l7] (.int y :: .int x :: t) h Q = if y < x then Ev d 69 109 [l0, l1, l2, l3, l4, l5, l6, l7] t h Q else Ev d 69 61 [l0, l1, l2, l3, l4, l5, l6, l7] t h Q := en_ic_gt mm69 dX5_bestSetpoint_58 rfl
theorem i69_61 {d l0 l2 l3 l4 l5 l6 l7 t x h Q} : Ev d 69 61 [l0, some (.int x), l2, l3, l4, l5, l6, l7] t h Q = Ev d 69 62 [l0, some (.int x), l2, l3, l4, l5, l6, l7] (.int x :: t) h Q := en_iload_n mm69 dX5_bestSetpoint_61 rfl
theorem i69_62 {d l0 l1 l2 l3 l4 l6 l7 t x h Q} : Ev d 69 62 [l0, l1, l2, l3, l4, some (.int x), l6, l7] t h Q = Ev d 69 64 [l0, l1, l2, l3, l4, some (.int x), l6, l7] (.int x :: t) h Q := en_iload mm69 dX5_bestSetpoint_62 rfl
theorem i69_64 {d l0 l1 l2 l3 l5 l6 l7 t x h Q} : Ev d 69 64 [l0, l1, l2, l3, some (.int x), l5, l6, l7] t h Q = Ev d 69 66 [l0, l1, l2, l3, some (.int x), l5, l6, l7] (.int x :: t) h Q := en_iload mm69 dX5_bestSetpoint_64 rfl
theorem i69_66 {d l0 l1 l2 l3 l4 l5 l6 l7 t x y h Q} : Ev d 69 66 [l0, l1, l2, l3, l4, l5, l6, l7] (.int y :: .int x :: t) h Q = Ev d 69 67 [l0, l1, l2, l3, l4, l5, l6, l7] (.int (x * y) :: t) h Q := en_imul mm69 dX5_bestSetpoint_66
theorem i69_67 {d l0 l1 l2 l3 l4 l5 l6 l7 t x y h Q} : Ev d 69 67 [l0, l1, l2, l3, l4, l5, l6, l7] (.int y :: .int x :: t) h Q = Ev d 69 68 [l0, l1, l2, l3, l4, l5, l6, l7] (.int (x + y) :: t) h Q := en_iadd mm69 dX5_bestSetpoint_67
theorem i69_68 {d l0 l1 l2 l3 l4 l5 l6 l7 t x h Q} : Ev d 69 68 [l0, l1, l2, l3, l4, l5, l6, l7] (.int x :: t) h Q = Ev d 69 70 [l0, l1, l2, l3, l4, nl l5, some (.int x), l7] t h Q := en_istore mm69 dX5_bestSetpoint_68 (of_decide_eq_true rfl) rfl
theorem i69_70 {d l0 l1 l2 l3 l4 l5 l7 t x h Q} : Ev d 69 70 [l0, l1, l2, l3, l4, l5, some (.int x), l7] t h Q = Ev d 69 72 [l0, l1, l2, l3, l4, l5, some (.int x), l7] (.int x :: t) h Q := en_iload mm69 dX5_bestSetpoint_70 rfl
theorem i69_72 {d l0 l1 l2 l3 l4 l5 l6 l7 t h Q} : Ev d 69 72 [l0, l1, l2, l3, l4, l5, l6, l7] t h Q = Ev d 69 74 [l0, l1, l2, l3, l4, l5, l6, l7] (.int 100 :: t) h Q := en_bipush mm69 dX5_bestSetpoint_72 (by decide)
theorem i69_74 {d l0 l1 l2 l3 l4 l5 l6 l7 t h Q} : Ev d 69 74 [l0, l1, l2, l3, l4, l5, l6, l7] t h Q = Ev d 69 77 [l0, l1, l2, l3, l4, l5, l6, l7] (.int 900 :: t) h Q := en_sipush mm69 dX5_bestSetpoint_74 (by decide)
theorem i69_77 {d l0 l1 l2 l3 l4 l5 l6 l7 x0 x1 x2 h Q} : Ev (d + 1) 69 77 [l0, l1, l2, l3, l4, l5, l6, l7] [x0, x1, x2] h Q = EvM d 81 [x2, x1, x0] h (konN (d + 1) 69 80 [l0, l1, l2, l3, l4, l5, l6, l7] [] Q) := en_staticN mm69 dX5_bestSetpoint_77 (by decide +kernel : ml _ _ = some (0, 81)) (by decide) (rfl : mtab[81]? = some _) (by decide +kernel : npar _ = 3) (of_decide_eq_true rfl) (len_cat (of_decide_eq_true rfl)) rfl rfl rfl
theorem i69_80 {d l0 l1 l2 l3 l4 l5 l6 l7 t x h Q} : Ev d 69 80 [l0, l1, l2, l3, l4, l5, l6, l7] (.int x :: t) h Q = if x = 0 then Ev d 69 103 [l0, l1, l2, l3, l4, l5, l6, l7] t h Q else Ev d 69 83 [l0, l1, l2, l3, l4, l5, l6, l7] t h Q := en_if_eq mm69 dX5_bestSetpoint_80 rfl
theorem i69_83 {d a l1 l2 l3 l4 l5 l6 l7 t h Q} : Ev d 69 83 [some (.ref a), l1, l2, l3, l4, l5, l6, l7] t h Q = Ev d 69 84 [some (.ref a), l1, l2, l3, l4, l5, l6, l7] (.ref a :: t) h Q := en_aload_n mm69 dX5_bestSetpoint_83 rfl
theorem i69_84 {d l0 l1 l2 l3 l4 l5 l7 t x h Q} : Ev d 69 84 [l0, l1, l2, l3, l4, l5, some (.int x), l7] t h Q = Ev d 69 86 [l0, l1, l2, l3, l4, l5, some (.int x), l7] (.int x :: t) h Q := en_iload mm69 dX5_bestSetpoint_84 rfl
theorem i69_86 {d a l0 l1 l2 l3 l4 l5 l6 l7 x0 h Q} : Ev (d + 1) 69 86 [l0, l1, l2, l3, l4, l5, l6, l7] [x0, .ref a] h Q = (hk h a = 6 ∧ EvM d 77 [.ref a, x0] h (konN (d + 1) 69 89 [l0, l1, l2, l3, l4, l5, l6, l7] [] Q)) := en_virtualN mm69 dX5_bestSetpoint_86 (by decide +kernel : ml _ _ = some (2, 77)) (by decide) (rfl : mtab[77]? = some _) (by decide +kernel : npar _ = 1) rfl (by decide) rfl (of_decide_eq_true rfl) (len_cat (of_decide_eq_true rfl)) rfl rfl rfl
theorem i69_89 {d l0 l1 l2 l3 l4 l5 l6 l7 t x h Q} : Ev d 69 89 [l0, l1, l2, l3, l4, l5, l6, l7] (.int x :: t) h Q = Ev d 69 91 [l0, l1, l2, l3, l4, l5, nl l6, some (.int x)] t h Q := en_istore mm69 dX5_bestSetpoint_89 (of_decide_eq_true rfl) rfl
theorem i69_91 {d l0 l1 l2 l3 l4 l5 l6 t x h Q} : Ev d 69 91 [l0, l1, l2, l3, l4, l5, l6, some (.int x)] t h Q = Ev d 69 93 [l0, l1, l2, l3, l4, l5, l6, some (.int x)] (.int x :: t) h Q := en_iload mm69 dX5_bestSetpoint_91 rfl
theorem i69_93 {d l0 l1 l2 l4 l5 l6 l7 t x h Q} : Ev d 69 93 [l0, l1, l2, some (.int x), l4, l5, l6, l7] t h Q = Ev d 69 94 [l0, l1, l2, some (.int x), l4, l5, l6, l7] (.int x :: t) h Q := en_iload_n mm69 dX5_bestSetpoint_93 rfl
theorem i69_94 {d l0 l1 l2 l3 l4 l5 l6 l7 t x y h Q} : Ev d 69 94 [l0, l1, l2, l3, l4, l5, l6, l7] (.int y :: .int x :: t) h Q = if x ≤ y then Ev d 69 103 [l0, l1, l2, l3, l4, l5, l6, l7] t h Q else Ev d 69 97 [l0, l1, l2, l3, l4, l5, l6, l7] t h Q := en_ic_le mm69 dX5_bestSetpoint_94 rfl
theorem i69_97 {d l0 l1 l2 l3 l4 l5 l6 t x h Q} : Ev d 69 97 [l0, l1, l2, l3, l4, l5, l6, some (.int x)] t h Q = Ev d 69 99 [l0, l1, l2, l3, l4, l5, l6, some (.int x)] (.int x :: t) h Q := en_iload mm69 dX5_bestSetpoint_97 rfl
theorem i69_99 {d l0 l1 l2 l3 l4 l5 l6 l7 t x h Q} : Ev d 69 99 [l0, l1, l2, l3, l4, l5, l6, l7] (.int x :: t) h Q = Ev d 69 100 [l0, l1, nl l2, some (.int x), l4, l5, l6, l7] t h Q := en_istore_n mm69 dX5_bestSetpoint_99 (of_decide_eq_true rfl) rfl
theorem i69_100 {d l0 l1 l2 l3 l4 l5 l7 t x h Q} : Ev d 69 100 [l0, l1, l2, l3, l4, l5, some (.int x), l7] t h Q = Ev d 69 102 [l0, l1, l2, l3, l4, l5, some (.int x), l7] (.int x :: t) h Q := en_iload mm69 dX5_bestSetpoint_100 rfl
theorem i69_102 {d l0 l1 l2 l3 l4 l5 l6 l7 t x h Q} : Ev d 69 102 [l0, l1, l2, l3, l4, l5, l6, l7] (.int x :: t) h Q = Ev d 69 103 [l0, nl l1, some (.int x), l3, l4, l5, l6, l7] t h Q := en_istore_n mm69 dX5_bestSetpoint_102 (of_decide_eq_true rfl) rfl
theorem i69_103 {d l0 l1 l2 l3 l4 l6 l7 t x h Q} : Ev d 69 103 [l0, l1, l2, l3, l4, some (.int x), l6, l7] t h Q = Ev d 69 106 [l0, l1, l2, l3, nl l4, some (.int (x + 2)), l6, l7] t h Q := en_iinc mm69 dX5_bestSetpoint_103 rfl (by decide) rfl
theorem i69_106 {d l0 l1 l2 l3 l4 l5 l6 l7 t h Q} : Ev d 69 106 [l0, l1, l2, l3, l4, l5, l6, l7] t h Q = Ev d 69 55 [l0, l1, l2, l3, l4, l5, l6, l7] t h Q := en_goto mm69 dX5_bestSetpoint_106 rfl
theorem i69_109 {d l0 l1 l2 l3 l5 l6 l7 t x h Q} : Ev d 69 109 [l0, l1, l2, l3, some (.int x), l5, l6, l7] t h Q = Ev d 69 112 [l0, l1, l2, nl l3, some (.int (x + 10)), l5, l6, l7] t h Q := en_iinc mm69 dX5_bestSetpoint_109 rfl (by decide) rfl
theorem i69_112 {d l0 l1 l2 l3 l4 l5 l6 l7 t h Q} : Ev d 69 112 [l0, l1, l2, l3, l4, l5, l6, l7] t h Q = Ev d 69 45 [l0, l1, l2, l3, l4, l5, l6, l7] t h Q := en_goto mm69 dX5_bestSetpoint_112 rfl
theorem i69_115 {d l0 l1 l3 l4 l5 l6 l7 t x h Q} : Ev d 69 115 [l0, l1, some (.int x), l3, l4, l5, l6, l7] t h Q = Ev d 69 116 [l0, l1, some (.int x), l3, l4, l5, l6, l7] (.int x :: t) h Q := en_iload_n mm69 dX5_bestSetpoint_115 rfl
theorem i69_116 {d l0 l1 l2 l3 l4 l5 l6 l7 x h Q} : Ev d 69 116 [l0, l1, l2, l3, l4, l5, l6, l7] [.int x] h Q = Q (.inl (some (.int x))) h := en_ireturnI mm69 dX5_bestSetpoint_116 rfl
abbrev em70 : MI := (yX5_add, cX5_add, 4, some .int, 5, [])
theorem mm70 : mtab[70]? = some em70 := rfl
theorem in70 {d : Nat} {h : AH} {K : AO → AH → Prop} {v0 : Nat} {v1 : Int32} {v2 : Int32} : EvM d 70 [(.ref v0), (.int v1), (.int v2)] h K = Ev d 70 0 [some (.ref v0), some (.int v1), some (.int v2), none] [] h K := evm_in mm70 (of_decide_eq_true rfl) rfl
theorem i70_0 {d l0 l2 l3 t x h Q} : Ev d 70 0 [l0, some (.int x), l2, l3] t h Q = Ev d 70 1 [l0, some (.int x), l2, l3] (.int x :: t) h Q := en_iload_n mm70 dX5_add_0 rfl
theorem i70_1 {d l0 l1 l2 l3 t h Q} : Ev d 70 1 [l0, l1, l2, l3] t h Q = Ev d 70 2 [l0, l1, l2, l3] (.int 1 :: t) h Q := en_iconst mm70 dX5_add_1 (by decide)
theorem i70_2 {d l0 l1 l2 l3 t h Q} : Ev d 70 2 [l0, l1, l2, l3] t h Q = Ev d 70 5 [l0, l1, l2, l3] (.int 9999 :: t) h Q := en_sipush mm70 dX5_add_2 (by decide)
theorem i70_5 {d l0 l1 l2 l3 x0 x1 x2 h Q} : Ev (d + 1) 70 5 [l0, l1, l2, l3] [x0, x1, x2] h Q = EvM d 79 [x2, x1, x0] h (konN (d + 1) 70 8 [l0, l1, l2, l3] [] Q) := en_staticN mm70 dX5_add_5 (by decide +kernel : ml _ _ = some (0, 79)) (by decide) (rfl : mtab[79]? = some _) (by decide +kernel : npar _ = 3) (of_decide_eq_true rfl) (len_cat (of_decide_eq_true rfl)) rfl rfl rfl
theorem i70_8 {d l0 l1 l3 t x h Q} : Ev d 70 8 [l0, l1, some (.int x), l3] t h Q = Ev d 70 9 [l0, l1, some (.int x), l3] (.int x :: t) h Q := en_iload_n mm70 dX5_add_8 rfl
theorem i70_9 {d l0 l1 l2 l3 t h Q} : Ev d 70 9 [l0, l1, l2, l3] t h Q = Ev d 70 10 [l0, l1, l2, l3] (.int 1 :: t) h Q := en_iconst mm70 dX5_add_9 (by decide)
theorem i70_10 {d l0 l1 l2 l3 t h Q} : Ev d 70 10 [l0, l1, l2, l3] t h Q = Ev d 70 13 [l0, l1, l2, l3] (.int 9999 :: t) h Q := en_sipush mm70 dX5_add_10 (by decide)
theorem i70_13 {d l0 l1 l2 l3 x0 x1 x2 h Q} : Ev (d + 1) 70 13 [l0, l1, l2, l3] [x0, x1, x2] h Q = EvM d 79 [x2, x1, x0] h (konN (d + 1) 70 16 [l0, l1, l2, l3] [] Q) := en_staticN mm70 dX5_add_13 (by decide +kernel : ml _ _ = some (0, 79)) (by decide) (rfl : mtab[79]? = some _) (by decide +kernel : npar _ = 3) (of_decide_eq_true rfl) (len_cat (of_decide_eq_true rfl)) rfl rfl rfl
theorem i70_16 {d l0 l2 l3 t x h Q} : Ev d 70 16 [l0, some (.int x), l2, l3] t h Q = Ev d 70 17 [l0, some (.int x), l2, l3] (.int x :: t) h Q := en_iload_n mm70 dX5_add_16 rfl
theorem i70_17 {d l0 l1 l3 t x h Q} : Ev d 70 17 [l0, l1, some (.int x), l3] t h Q = Ev d 70 18 [l0, l1, some (.int x), l3] (.int x :: t) h Q := en_iload_n mm70 dX5_add_17 rfl
theorem i70_18 {d l0 l1 l2 l3 x0 x1 h Q} : Ev (d + 1) 70 18 [l0, l1, l2, l3] [x0, x1] h Q = EvM d 84 [x1, x0] h (konN (d + 1) 70 21 [l0, l1, l2, l3] [] Q) := en_staticN mm70 dX5_add_18 (by decide +kernel : ml _ _ = some (0, 84)) (by decide) (rfl : mtab[84]? = some _) (by decide +kernel : npar _ = 2) (of_decide_eq_true rfl) (len_cat (of_decide_eq_true rfl)) rfl rfl rfl
theorem i70_21 {d l0 l1 l2 l3 t x h Q} : Ev d 70 21 [l0, l1, l2, l3] (.int x :: t) h Q = Ev d 70 22 [l0, l1, nl l2, some (.int x)] t h Q := en_istore_n mm70 dX5_add_21 (of_decide_eq_true rfl) rfl
theorem i70_22 {d l0 l1 l2 t x h Q} : Ev d 70 22 [l0, l1, l2, some (.int x)] t h Q = Ev d 70 23 [l0, l1, l2, some (.int x)] (.int x :: t) h Q := en_iload_n mm70 dX5_add_22 rfl
theorem i70_23 {d l0 l1 l2 l3 t h Q} : Ev d 70 23 [l0, l1, l2, l3] t h Q = Ev d 70 24 [l0, l1, l2, l3] (.int 2 :: t) h Q := en_iconst mm70 dX5_add_23 (by decide)
theorem i70_24 {d l0 l1 l2 l3 t h Q} : Ev d 70 24 [l0, l1, l2, l3] t h Q = Ev d 70 26 [l0, l1, l2, l3] (.int 19 :: t) h Q := en_bipush mm70 dX5_add_24 (by decide)
theorem i70_26 {d l0 l1 l2 l3 x0 x1 x2 h Q} : Ev (d + 1) 70 26 [l0, l1, l2, l3] [x0, x1, x2] h Q = EvM d 79 [x2, x1, x0] h (konN (d + 1) 70 29 [l0, l1, l2, l3] [] Q) := en_staticN mm70 dX5_add_26 (by decide +kernel : ml _ _ = some (0, 79)) (by decide) (rfl : mtab[79]? = some _) (by decide +kernel : npar _ = 3) (of_decide_eq_true rfl) (len_cat (of_decide_eq_true rfl)) rfl rfl rfl
theorem i70_29 {d a l1 l2 l3 t h Q} : Ev d 70 29 [some (.ref a), l1, l2, l3] t h Q = Ev d 70 30 [some (.ref a), l1, l2, l3] (.ref a :: t) h Q := en_aload_n mm70 dX5_add_29 rfl
theorem i70_30 {d a l0 l1 l2 l3 h Q} : Ev (d + 1) 70 30 [l0, l1, l2, l3] [.ref a] h Q = (hk h a = 6 ∧ EvM d 78 [.ref a] h (konN (d + 1) 70 33 [l0, l1, l2, l3] [] Q)) := en_virtualN mm70 dX5_add_30 (by decide +kernel : ml _ _ = some (2, 78)) (by decide) (rfl : mtab[78]? = some _) (by decide +kernel : npar _ = 0) rfl (by decide) rfl (of_decide_eq_true rfl) (len_cat (of_decide_eq_true rfl)) rfl rfl rfl
theorem i70_33 {d a l1 l2 l3 t h Q} : Ev d 70 33 [some (.ref a), l1, l2, l3] t h Q = Ev d 70 34 [some (.ref a), l1, l2, l3] (.ref a :: t) h Q := en_aload_n mm70 dX5_add_33 rfl
theorem i70_34 {d a l0 l1 l2 l3 t h Q} : Ev d 70 34 [l0, l1, l2, l3] (.ref a :: t) h Q = (hk h a = 6 ∧ Ev d 70 37 [l0, l1, l2, l3] (hF h a 1 :: t) h Q) := en_getfield (cj := 5) mm70 dX5_add_34 (by decide +kernel)
theorem i70_37 {d a l0 l1 l2 l3 t h Q} : Ev d 70 37 [l0, l1, l2, l3] (.ref a :: t) h Q = (hk h a = 3 ∧ Ev d 70 40 [l0, l1, l2, l3] (hF h a 2 :: t) h Q) := en_getfield (cj := 2) mm70 dX5_add_37 (by decide +kernel)
theorem i70_40 {d l0 l1 l2 l3 t h Q} : Ev d 70 40 [l0, l1, l2, l3] t h Q = Ev d 70 42 [l0, l1, l2, l3] (.int 20 :: t) h Q := en_bipush mm70 dX5_add_40 (by decide)
theorem i70_42 {d l0 l1 l2 l3 t x y h Q} : Ev d 70 42 [l0, l1, l2, l3] (.int y :: .int x :: t) h Q = if x < y then Ev d 70 55 [l0, l1, l2, l3] t h Q else Ev d 70 45 [l0, l1, l2, l3] t h Q := en_ic_lt mm70 dX5_add_42 rfl
theorem i70_45 {d l0 l1 l2 l3 h Q} : Ev (d + 10) 70 45 [l0, l1, l2, l3] [] h Q = Q (.inr 1) (alH h) := en_throw mm70 dX5_add_45 (by decide +kernel) (athr_of (by decide +kernel : look _ exT = some (914, 1)) dX5_add_48 dX5_add_49 dX5_add_51 dX5_add_54 (by decide +kernel) (by decide +kernel) rfl)
theorem i70_48 {d a l0 l1 l2 l3 t h Q} : Ev d 70 48 [l0, l1, l2, l3] (.ref a :: t) h Q = Ev d 70 49 [l0, l1, l2, l3] (.ref a :: .ref a :: t) h Q := en_dup mm70 dX5_add_48
theorem i70_49 {d l0 l1 l2 l3 t h Q} : Ev d 70 49 [l0, l1, l2, l3] t h Q = Ev d 70 51 [l0, l1, l2, l3] (litV 22 :: t) h Q := en_ldcS mm70 dX5_add_49 (by decide +kernel) (by decide +kernel)
theorem i70_55 {d a l1 l2 l3 t h Q} : Ev d 70 55 [some (.ref a), l1, l2, l3] t h Q = Ev d 70 56 [some (.ref a), l1, l2, l3] (.ref a :: t) h Q := en_aload_n mm70 dX5_add_55 rfl
theorem i70_56 {d a l0 l1 l2 l3 t h Q} : Ev d 70 56 [l0, l1, l2, l3] (.ref a :: t) h Q = (hk h a = 6 ∧ Ev d 70 59 [l0, l1, l2, l3] (hF h a 3 :: t) h Q) := en_getfield (cj := 5) mm70 dX5_add_56 (by decide +kernel)
theorem i70_59 {d a l1 l2 l3 t h Q} : Ev d 70 59 [some (.ref a), l1, l2, l3] t h Q = Ev d 70 60 [some (.ref a), l1, l2, l3] (.ref a :: t) h Q := en_aload_n mm70 dX5_add_59 rfl
theorem i70_60 {d a l0 l1 l2 l3 t h Q} : Ev d 70 60 [l0, l1, l2, l3] (.ref a :: t) h Q = (hk h a = 6 ∧ Ev d 70 63 [l0, l1, l2, l3] (hF h a 1 :: t) h Q) := en_getfield (cj := 5) mm70 dX5_add_60 (by decide +kernel)
theorem i70_63 {d a l0 l1 l2 l3 x0 h Q} : Ev (d + 1) 70 63 [l0, l1, l2, l3] [x0, .ref a] h Q = (hk h a = 2 ∧ EvM d 4 [.ref a, x0] h (konN (d + 1) 70 66 [l0, l1, l2, l3] [] Q)) := en_virtualN mm70 dX5_add_63 (by decide +kernel : ml _ _ = some (3, 4)) (by decide) (rfl : mtab[4]? = some _) (by decide +kernel : npar _ = 1) rfl (by decide) rfl (of_decide_eq_true rfl) (len_cat (of_decide_eq_true rfl)) rfl rfl rfl
theorem i70_66 {d a l1 l2 l3 t h Q} : Ev d 70 66 [some (.ref a), l1, l2, l3] t h Q = Ev d 70 67 [some (.ref a), l1, l2, l3] (.ref a :: t) h Q := en_aload_n mm70 dX5_add_66 rfl
theorem i70_67 {d a l0 l1 l2 l3 t h Q} : Ev d 70 67 [l0, l1, l2, l3] (.ref a :: t) h Q = (hk h a = 6 ∧ Ev d 70 70 [l0, l1, l2, l3] (hF h a 1 :: t) h Q) := en_getfield (cj := 5) mm70 dX5_add_67 (by decide +kernel)
theorem i70_70 {d l0 l1 l2 t x h Q} : Ev d 70 70 [l0, l1, l2, some (.int x)] t h Q = Ev d 70 71 [l0, l1, l2, some (.int x)] (.int x :: t) h Q := en_iload_n mm70 dX5_add_70 rfl
theorem i70_71 {d a l0 l1 l2 l3 x0 h Q} : Ev (d + 1) 70 71 [l0, l1, l2, l3] [x0, .ref a] h Q = (hk h a = 3 ∧ EvM d 12 [.ref a, x0] h (konN (d + 1) 70 74 [l0, l1, l2, l3] [] Q)) := en_virtualN mm70 dX5_add_71 (by decide +kernel : ml _ _ = some (3, 12)) (by decide) (rfl : mtab[12]? = some _) (by decide +kernel : npar _ = 1) rfl (by decide) rfl (of_decide_eq_true rfl) (len_cat (of_decide_eq_true rfl)) rfl rfl rfl
theorem i70_74 {d l0 l1 l2 l3 x h Q} : Ev d 70 74 [l0, l1, l2, l3] [.int x] h Q = Q (.inl (some (.int x))) h := en_ireturnI mm70 dX5_add_74 rfl
abbrev em71 : MI := (yX5_run, cX5_run, 4, some .int, 5, [])
theorem mm71 : mtab[71]? = some em71 := rfl
theorem in71 {d : Nat} {h : AH} {K : AO → AH → Prop} {v0 : Nat} {v1 : Int32} : EvM d 71 [(.ref v0), (.int v1)] h K = Ev d 71 0 [some (.ref v0), some (.int v1), none, none] [] h K := evm_in mm71 (of_decide_eq_true rfl) rfl
theorem i71_0 {d l0 l2 l3 t x h Q} : Ev d 71 0 [l0, some (.int x), l2, l3] t h Q = Ev d 71 1 [l0, some (.int x), l2, l3] (.int x :: t) h Q := en_iload_n mm71 dX5_run_0 rfl
theorem i71_1 {d l0 l1 l2 l3 t h Q} : Ev d 71 1 [l0, l1, l2, l3] t h Q = Ev d 71 2 [l0, l1, l2, l3] (.int 1 :: t) h Q := en_iconst mm71 dX5_run_1 (by decide)
theorem i71_2 {d l0 l1 l2 l3 t h Q} : Ev d 71 2 [l0, l1, l2, l3] t h Q = Ev d 71 4 [l0, l1, l2, l3] (.int 60 :: t) h Q := en_bipush mm71 dX5_run_2 (by decide)
theorem i71_4 {d l0 l1 l2 l3 x0 x1 x2 h Q} : Ev (d + 1) 71 4 [l0, l1, l2, l3] [x0, x1, x2] h Q = EvM d 79 [x2, x1, x0] h (konN (d + 1) 71 7 [l0, l1, l2, l3] [] Q) := en_staticN mm71 dX5_run_4 (by decide +kernel : ml _ _ = some (0, 79)) (by decide) (rfl : mtab[79]? = some _) (by decide +kernel : npar _ = 3) (of_decide_eq_true rfl) (len_cat (of_decide_eq_true rfl)) rfl rfl rfl
theorem i71_7 {d a l1 l2 l3 t h Q} : Ev d 71 7 [some (.ref a), l1, l2, l3] t h Q = Ev d 71 8 [some (.ref a), l1, l2, l3] (.ref a :: t) h Q := en_aload_n mm71 dX5_run_7 rfl
theorem i71_8 {d a l0 l1 l2 l3 h Q} : Ev (d + 1) 71 8 [l0, l1, l2, l3] [.ref a] h Q = (hk h a = 6 ∧ EvM d 78 [.ref a] h (konN (d + 1) 71 11 [l0, l1, l2, l3] [] Q)) := en_virtualN mm71 dX5_run_8 (by decide +kernel : ml _ _ = some (2, 78)) (by decide) (rfl : mtab[78]? = some _) (by decide +kernel : npar _ = 0) rfl (by decide) rfl (of_decide_eq_true rfl) (len_cat (of_decide_eq_true rfl)) rfl rfl rfl
theorem i71_11 {d a l1 l2 l3 t h Q} : Ev d 71 11 [some (.ref a), l1, l2, l3] t h Q = Ev d 71 12 [some (.ref a), l1, l2, l3] (.ref a :: t) h Q := en_aload_n mm71 dX5_run_11 rfl
theorem i71_12 {d a l0 l1 l2 l3 t h Q} : Ev d 71 12 [l0, l1, l2, l3] (.ref a :: t) h Q = (hk h a = 6 ∧ Ev d 71 15 [l0, l1, l2, l3] (hF h a 1 :: t) h Q) := en_getfield (cj := 5) mm71 dX5_run_12 (by decide +kernel)
theorem i71_15 {d a l0 l1 l2 l3 t h Q} : Ev d 71 15 [l0, l1, l2, l3] (.ref a :: t) h Q = (hk h a = 3 ∧ Ev d 71 18 [l0, l1, l2, l3] (hF h a 1 :: t) h Q) := en_getfield (cj := 2) mm71 dX5_run_15 (by decide +kernel)
theorem i71_18 {d l0 l2 l3 t x h Q} : Ev d 71 18 [l0, some (.int x), l2, l3] t h Q = Ev d 71 19 [l0, some (.int x), l2, l3] (.int x :: t) h Q := en_iload_n mm71 dX5_run_18 rfl
theorem i71_19 {d l0 l1 l2 l3 t x y h Q} : Ev d 71 19 [l0, l1, l2, l3] (.int y :: .int x :: t) h Q = Ev d 71 20 [l0, l1, l2, l3] (.int (x + y) :: t) h Q := en_iadd mm71 dX5_run_19
theorem i71_20 {d l0 l1 l2 l3 t h Q} : Ev d 71 20 [l0, l1, l2, l3] t h Q = Ev d 71 22 [l0, l1, l2, l3] (.int 100000 :: t) h Q := en_ldcI mm71 dX5_run_20 (by decide +kernel : look _ cstT = some (940, 100000)) (by decide)
theorem i71_22 {d l0 l1 l2 l3 t x y h Q} : Ev d 71 22 [l0, l1, l2, l3] (.int y :: .int x :: t) h Q = if x ≤ y then Ev d 71 35 [l0, l1, l2, l3] t h Q else Ev d 71 25 [l0, l1, l2, l3] t h Q := en_ic_le mm71 dX5_run_22 rfl
theorem i71_25 {d l0 l1 l2 l3 h Q} : Ev (d + 10) 71 25 [l0, l1, l2, l3] [] h Q = Q (.inr 1) (alH h) := en_throw mm71 dX5_run_25 (by decide +kernel) (athr_of (by decide +kernel : look _ exT = some (914, 1)) dX5_run_28 dX5_run_29 dX5_run_31 dX5_run_34 (by decide +kernel) (by decide +kernel) rfl)
theorem i71_28 {d a l0 l1 l2 l3 t h Q} : Ev d 71 28 [l0, l1, l2, l3] (.ref a :: t) h Q = Ev d 71 29 [l0, l1, l2, l3] (.ref a :: .ref a :: t) h Q := en_dup mm71 dX5_run_28
theorem i71_29 {d l0 l1 l2 l3 t h Q} : Ev d 71 29 [l0, l1, l2, l3] t h Q = Ev d 71 31 [l0, l1, l2, l3] (litV 23 :: t) h Q := en_ldcS mm71 dX5_run_29 (by decide +kernel) (by decide +kernel)
theorem i71_35 {d a l1 l2 l3 t h Q} : Ev d 71 35 [some (.ref a), l1, l2, l3] t h Q = Ev d 71 36 [some (.ref a), l1, l2, l3] (.ref a :: t) h Q := en_aload_n mm71 dX5_run_35 rfl
theorem i71_36 {d a l0 l1 l2 l3 t h Q} : Ev d 71 36 [l0, l1, l2, l3] (.ref a :: t) h Q = (hk h a = 6 ∧ Ev d 71 39 [l0, l1, l2, l3] (hF h a 3 :: t) h Q) := en_getfield (cj := 5) mm71 dX5_run_36 (by decide +kernel)
theorem i71_39 {d a l1 l2 l3 t h Q} : Ev d 71 39 [some (.ref a), l1, l2, l3] t h Q = Ev d 71 40 [some (.ref a), l1, l2, l3] (.ref a :: t) h Q := en_aload_n mm71 dX5_run_39 rfl
theorem i71_40 {d a l0 l1 l2 l3 t h Q} : Ev d 71 40 [l0, l1, l2, l3] (.ref a :: t) h Q = (hk h a = 6 ∧ Ev d 71 43 [l0, l1, l2, l3] (hF h a 1 :: t) h Q) := en_getfield (cj := 5) mm71 dX5_run_40 (by decide +kernel)
theorem i71_43 {d a l0 l1 l2 l3 x0 h Q} : Ev (d + 1) 71 43 [l0, l1, l2, l3] [x0, .ref a] h Q = (hk h a = 2 ∧ EvM d 4 [.ref a, x0] h (konN (d + 1) 71 46 [l0, l1, l2, l3] [] Q)) := en_virtualN mm71 dX5_run_43 (by decide +kernel : ml _ _ = some (3, 4)) (by decide) (rfl : mtab[4]? = some _) (by decide +kernel : npar _ = 1) rfl (by decide) rfl (of_decide_eq_true rfl) (len_cat (of_decide_eq_true rfl)) rfl rfl rfl
theorem i71_46 {d a l1 l2 l3 t h Q} : Ev d 71 46 [some (.ref a), l1, l2, l3] t h Q = Ev d 71 47 [some (.ref a), l1, l2, l3] (.ref a :: t) h Q := en_aload_n mm71 dX5_run_46 rfl
theorem i71_47 {d a l0 l1 l2 l3 t h Q} : Ev d 71 47 [l0, l1, l2, l3] (.ref a :: t) h Q = (hk h a = 6 ∧ Ev d 71 50 [l0, l1, l2, l3] (hF h a 1 :: t) h Q) := en_getfield (cj := 5) mm71 dX5_run_47 (by decide +kernel)
theorem i71_50 {d l0 l1 l2 l3 t h Q} : Ev d 71 50 [l0, l1, l2, l3] t h Q = Ev d 71 51 [l0, l1, l2, l3] (.int 3 :: t) h Q := en_iconst mm71 dX5_run_50 (by decide)
theorem i71_51 {d a l0 l1 l2 l3 x0 h Q} : Ev (d + 1) 71 51 [l0, l1, l2, l3] [x0, .ref a] h Q = (hk h a = 3 ∧ EvM d 14 [.ref a, x0] h (konN (d + 1) 71 54 [l0, l1, l2, l3] [] Q)) := en_virtualN mm71 dX5_run_51 (by decide +kernel : ml _ _ = some (3, 14)) (by decide) (rfl : mtab[14]? = some _) (by decide +kernel : npar _ = 1) rfl (by decide) rfl (of_decide_eq_true rfl) (len_cat (of_decide_eq_true rfl)) rfl rfl rfl
theorem i71_54 {d l0 l1 l2 l3 t x h Q} : Ev d 71 54 [l0, l1, l2, l3] (.int x :: t) h Q = Ev d 71 55 [l0, nl l1, some (.int x), l3] t h Q := en_istore_n mm71 dX5_run_54 (of_decide_eq_true rfl) rfl
theorem i71_55 {d l0 l1 l2 l3 t h Q} : Ev d 71 55 [l0, l1, l2, l3] t h Q = Ev d 71 56 [l0, l1, l2, l3] (.int 0 :: t) h Q := en_iconst mm71 dX5_run_55 (by decide)
theorem i71_56 {d l0 l1 l2 l3 t x h Q} : Ev d 71 56 [l0, l1, l2, l3] (.int x :: t) h Q = Ev d 71 57 [l0, l1, nl l2, some (.int x)] t h Q := en_istore_n mm71 dX5_run_56 (of_decide_eq_true rfl) rfl
theorem i71_57 {d l0 l1 l2 t x h Q} : Ev d 71 57 [l0, l1, l2, some (.int x)] t h Q = Ev d 71 58 [l0, l1, l2, some (.int x)] (.int x :: t) h Q := en_iload_n mm71 dX5_run_57 rfl
theorem i71_58 {d l0 l2 l3 t x h Q} : Ev d 71 58 [l0, some (.int x), l2, l3] t h Q = Ev d 71 59 [l0, some (.int x), l2, l3] (.int x :: t) h Q := en_iload_n mm71 dX5_run_58 rfl
theorem i71_59 {d l0 l1 l2 l3 t x y h Q} : Ev d 71 59 [l0, l1, l2, l3] (.int y :: .int x :: t) h Q = if y ≤ x then Ev d 71 75 [l0, l1, l2, l3] t h Q else Ev d 71 62 [l0, l1, l2, l3] t h Q := en_ic_ge mm71 dX5_run_59 rfl
theorem i71_62 {d a l1 l2 l3 t h Q} : Ev d 71 62 [some (.ref a), l1, l2, l3] t h Q = Ev d 71 63 [some (.ref a), l1, l2, l3] (.ref a :: t) h Q := en_aload_n mm71 dX5_run_62 rfl
theorem i71_63 {d a l0 l1 l2 l3 t h Q} : Ev d 71 63 [l0, l1, l2, l3] (.ref a :: t) h Q = (hk h a = 6 ∧ Ev d 71 66 [l0, l1, l2, l3] (hF h a 1 :: t) h Q) := en_getfield (cj := 5) mm71 dX5_run_63 (by decide +kernel)
theorem i71_66 {d a l0 l1 l2 l3 h Q} : Ev (d + 1) 71 66 [l0, l1, l2, l3] [.ref a] h Q = (hk h a = 3 ∧ EvM d 17 [.ref a] h (konN (d + 1) 71 69 [l0, l1, l2, l3] [] Q)) := en_virtualN mm71 dX5_run_66 (by decide +kernel : ml _ _ = some (3, 17)) (by decide) (rfl : mtab[17]? = some _) (by decide +kernel : npar _ = 0) rfl (by decide) rfl (of_decide_eq_true rfl) (len_cat (of_decide_eq_true rfl)) rfl rfl rfl
theorem i71_69 {d l0 l1 l2 t x h Q} : Ev d 71 69 [l0, l1, l2, some (.int x)] t h Q = Ev d 71 72 [l0, l1, nl l2, some (.int (x + 1))] t h Q := en_iinc mm71 dX5_run_69 rfl (by decide) rfl
theorem i71_72 {d l0 l1 l2 l3 t h Q} : Ev d 71 72 [l0, l1, l2, l3] t h Q = Ev d 71 57 [l0, l1, l2, l3] t h Q := en_goto mm71 dX5_run_72 rfl
theorem i71_75 {d a l1 l2 l3 t h Q} : Ev d 71 75 [some (.ref a), l1, l2, l3] t h Q = Ev d 71 76 [some (.ref a), l1, l2, l3] (.ref a :: t) h Q := en_aload_n mm71 dX5_run_75 rfl
theorem i71_76 {d a l0 l1 l2 l3 t h Q} : Ev d 71 76 [l0, l1, l2, l3] (.ref a :: t) h Q = (hk h a = 6 ∧ Ev d 71 79 [l0, l1, l2, l3] (hF h a 1 :: t) h Q) := en_getfield (cj := 5) mm71 dX5_run_76 (by decide +kernel)
theorem i71_79 {d l0 l1 l2 l3 t h Q} : Ev d 71 79 [l0, l1, l2, l3] t h Q = Ev d 71 80 [l0, l1, l2, l3] (.int 3 :: t) h Q := en_iconst mm71 dX5_run_79 (by decide)
theorem i71_80 {d a l0 l1 l2 l3 x0 h Q} : Ev (d + 1) 71 80 [l0, l1, l2, l3] [x0, .ref a] h Q = (hk h a = 3 ∧ EvM d 14 [.ref a, x0] h (konN (d + 1) 71 83 [l0, l1, l2, l3] [] Q)) := en_virtualN mm71 dX5_run_80 (by decide +kernel : ml _ _ = some (3, 14)) (by decide) (rfl : mtab[14]? = some _) (by decide +kernel : npar _ = 1) rfl (by decide) rfl (of_decide_eq_true rfl) (len_cat (of_decide_eq_true rfl)) rfl rfl rfl
theorem i71_83 {d l0 l1 l3 t x h Q} : Ev d 71 83 [l0, l1, some (.int x), l3] t h Q = Ev d 71 84 [l0, l1, some (.int x), l3] (.int x :: t) h Q := en_iload_n mm71 dX5_run_83 rfl
theorem i71_84 {d l0 l1 l2 l3 t x y h Q} : Ev d 71 84 [l0, l1, l2, l3] (.int y :: .int x :: t) h Q = Ev d 71 85 [l0, l1, l2, l3] (.int (x - y) :: t) h Q := en_isub mm71 dX5_run_84
theorem i71_85 {d l0 l1 l2 l3 x h Q} : Ev d 71 85 [l0, l1, l2, l3] [.int x] h Q = Q (.inl (some (.int x))) h := en_ireturnI mm71 dX5_run_85 rfl
